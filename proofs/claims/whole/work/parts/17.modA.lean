def F_m_isPlace (x : Int32) : Int32 :=
  if x < (0 : Int32) then (0 : Int32) else (if (8 : Int32) ≤ x then (0 : Int32) else (1 : Int32))
def rm_m_isPlace : Room := { frames := 0, cells := 0, slots := 0, locals := 0 }
set_option maxHeartbeats 4000000 in
set_option maxRecDepth 100000 in
theorem C_m_isPlace (l : Launch) (D : va_G) (ty : List (ClassId × FieldType)) (sz : Nat) (G : mw_G) (Z : va_W) (hG : mw_ok ty sz G Z) (c : mw_C) (x : Int32) : kp_R l yX3_isPlace cX3_isPlace 1 (some .boolean) rm_m_isPlace D ty sz [.int x] (mw_W G c Z) (some (.int (F_m_isPlace x))) := by
  refine kp_bodyR (by decide) (Nat.le_of_ble_eq_true rfl) rfl ?_
  intro p e s m args below meth cd ls B hl hP hS
  obtain ⟨hx, hb, hml, hown, hlk, hr, hw, hE, hK, hsz⟩ := id B
  have hl : lv_has ls 1 [(0, .int x)] := hl
  refine lv_iload_n hx hb dX3_isPlace_0 rfl (lv_at hl 0 rfl) ?_
  refine lv_if_lt (tgt := 14) hx hb dX3_isPlace_1 (by decide) (fun q_1 => ?_) (fun q_1 => ?_)
  · refine lv_iconst (v := (0 : Int32)) hx hb dX3_isPlace_14 (by decide) ?_
    exact kp_retzR B (by simp only [F_m_isPlace, if_pos q_1]) (Or.inl rfl) dX3_isPlace_15
  · refine lv_iload_n hx hb dX3_isPlace_4 rfl (lv_at hl 0 rfl) ?_
    refine lv_bipush (v := (8 : Int32)) hx hb dX3_isPlace_5 (by decide) ?_
    refine lv_icmp_ge (tgt := 14) hx hb dX3_isPlace_7 (by decide) (fun q_2 => ?_) (fun q_2 => ?_)
    · refine lv_iconst (v := (0 : Int32)) hx hb dX3_isPlace_14 (by decide) ?_
      exact kp_retzR B (by simp only [F_m_isPlace, if_neg q_1, if_pos q_2]) (Or.inl rfl) dX3_isPlace_15
    · refine lv_iconst (v := (1 : Int32)) hx hb dX3_isPlace_10 (by decide) ?_
      refine lv_goto (tgt := 15) hx hb dX3_isPlace_11 (by decide) ?_
      exact kp_retzR B (by simp only [F_m_isPlace, if_neg q_1, if_neg q_2]) (Or.inr rfl) dX3_isPlace_15
theorem km_87a {x : Int32} (h : (8 : Int32) ≤ x) : ¬ x ≤ (7 : Int32) := by
  intro q
  rw [Int32.le_iff_toInt_le] at h q
  exact absurd (Int.le_trans h q) (by decide)
theorem km_87b {x : Int32} (h : ¬ (8 : Int32) ≤ x) : x ≤ (7 : Int32) := by
  have h := Int32.not_le.mp h
  rw [Int32.lt_iff_toInt_lt] at h
  rw [Int32.le_iff_toInt_le]
  have h1 : x.toInt < 8 := h
  show x.toInt ≤ 7
  omega
theorem ki_gt0 {x : Int64} (q : (0 : Int64) < x) : ¬ x = 0 := fun h => by rw [h] at q; exact absurd q (by decide)
theorem km_inP {x : Int32} (q : ¬ (F_m_isPlace x) = (0 : Int32)) : vp_in x 8 := by
  unfold F_m_isPlace at q
  by_cases h1 : x < 0
  · exact absurd (if_pos h1) q
  · rw [if_neg h1] at q
    by_cases h2 : (8 : Int32) ≤ x
    · exact absurd (if_pos h2) q
    · have a1 := Int32.not_lt.mp h1
      have a2 := Int32.not_le.mp h2
      rw [Int32.le_iff_toInt_le] at a1
      rw [Int32.lt_iff_toInt_lt] at a2
      exact vp_in_iff.mpr ⟨a1, a2⟩
theorem km_inT {c : mw_C} {x v : Int32} (q : (mp_thrown c (if (F_m_isPlace x) = (0 : Int32) then (1 : Int32) else v)).1.1 ≤ (0 : Int32)) : vp_in x 8 := by
  by_cases h : (F_m_isPlace x) = (0 : Int32)
  · rw [if_pos h] at q
    exact absurd q (by show ¬ (1 : Int32) ≤ 0; decide)
  · exact km_inP h
theorem km_inite {p : Prop} [Decidable p] {a b : Int32} (ha : vp_in a 8) (hb : vp_in b 8) : vp_in (if p then a else b) 8 := by
  split
  · exact ha
  · exact hb
theorem km_sum0 {y z : Int32} (q1 : ¬ (F_m_isPlace y) = (0 : Int32)) (q2 : ¬ z < (1 : Int32)) (q3 : z ≤ ((8 : Int32) - y)) : (0 ≤ y.toInt ∧ 1 ≤ z.toInt ∧ y.toInt + z.toInt ≤ 8 ∧ y.toInt ≤ y.toInt ∧ y.toInt ≤ y.toInt + z.toInt) ∧ y.toInt + z.toInt + 1 ≤ y.toInt + ((9 : Nat) : Int) := by
  have h1 := vp_in_iff.mp (km_inP q1)
  have h2 := Int32.not_lt.mp q2
  rw [Int32.le_iff_toInt_le] at h2 q3
  have e : ((8 : Int32) - y).toInt = 8 - y.toInt := by
    rw [Int32.toInt_sub, show (8 : Int32).toInt = 8 from rfl, Int.bmod_eq_of_le (by omega) (by omega)]
  rw [e] at q3
  have h3 : (1 : Int) ≤ z.toInt := h2
  omega
theorem km_amt (s : Int64) : ∃ n, n < 64 ∧ s &&& 63 = lN n := by
  refine ⟨s.toBitVec.toNat % 64, Nat.mod_lt _ (by decide), ?_⟩
  apply Int64.toBitVec_inj.mp
  apply BitVec.eq_of_toNat_eq
  rw [Int64.toBitVec_and, BitVec.toNat_and, show (63 : Int64).toBitVec.toNat = 2 ^ 6 - 1 from rfl, Nat.and_two_pow_sub_one_eq_mod]
  show _ = (BitVec.ofNat 64 _).toNat
  rw [BitVec.toNat_ofNat, Nat.mod_eq_of_lt (a := s.toBitVec.toNat % 64) (by have := Nat.mod_lt s.toBitVec.toNat (show 0 < 64 by decide); omega)]
theorem km_shl1 (s : Int64) : ¬ (1 : Int64) <<< (s &&& 63) = 0 := by
  obtain ⟨n, hn, e⟩ := km_amt s
  rw [e]
  have h : ∀ n : Fin 64, ¬ (1 : Int64) <<< lN n.val = 0 := by decide
  exact h ⟨n, hn⟩
theorem ki_len {x : Int64} {i : Int32} {n : Nat} (h1 : 0 ≤ i.toInt) (h3 : i.toInt ≤ 63) (q : ¬ (x >>> (i.toInt64 &&& 63)) ≤ (0 : Int64)) (h2 : 64 ≤ i.toInt + ((n + 1 : Nat) : Int)) : 0 ≤ (i + 1).toInt ∧ 64 ≤ (i + 1).toInt + (n : Int) ∧ (i + 1).toInt ≤ 63 := by
  have hq : i.toInt ≠ 63 := by
    intro h
    have e : i = 63 := Int32.toInt_inj.mp h
    subst e
    apply q
    rw [Int64.le_iff_toInt_le]
    have h9 : (x >>> ((63 : Int32).toInt64 &&& 63)).toInt = x.toInt >>> 63 := by
      rw [show ((63 : Int32).toInt64 &&& 63) = (63 : Int64) from by decide]
      show (x.toBitVec.sshiftRight' ((63 : Int64).toBitVec.smod 64)).toInt = _
      rw [BitVec.toInt_sshiftRight']
      rfl
    rw [h9, Int.shiftRight_eq_div_pow]
    have hlt := x.toInt_lt
    show x.toInt / ((2 ^ 63 : Nat) : Int) ≤ 0
    have := Int.ediv_lt_of_lt_mul (a := x.toInt) (b := 1) (c := ((2 ^ 63 : Nat) : Int)) (by decide) (by omega)
    omega
  have e : (i + 1).toInt = i.toInt + 1 := by
    rw [Int32.toInt_add, show (1 : Int32).toInt = 1 from rfl, Int.bmod_eq_of_le (by omega) (by omega)]
  rw [e]
  omega
theorem ki_up4 {i : Int32} {n : Nat} (h1 : 0 ≤ i.toInt) (h3 : i.toInt ≤ 4) (q : ¬ (4 : Int32) ≤ i) (h2 : 5 ≤ i.toInt + ((n + 1 : Nat) : Int)) : 0 ≤ (i + 1).toInt ∧ 5 ≤ (i + 1).toInt + (n : Int) ∧ (i + 1).toInt ≤ 4 := by
  have hq : i.toInt < 4 := by
    have h := Int32.not_le.mp q
    rw [Int32.lt_iff_toInt_lt] at h
    exact h
  have e : (i + 1).toInt = i.toInt + 1 := by
    rw [Int32.toInt_add, show (1 : Int32).toInt = 1 from rfl, Int.bmod_eq_of_le (by omega) (by omega)]
  rw [e]
  omega
theorem kc_out7 {x : Int32} (h0 : ¬ x = 0) (h1 : ¬ x = 1) (h2 : ¬ x = 2) (h3 : ¬ x = 3) (h4 : ¬ x = 4) (h5 : ¬ x = 5) (h6 : ¬ x = 6) : x.toInt < 0 ∨ 6 < x.toInt := by
  have a0 : x.toInt ≠ 0 := fun h => h0 (Int32.toInt_inj.mp h)
  have a1 : x.toInt ≠ 1 := fun h => h1 (Int32.toInt_inj.mp h)
  have a2 : x.toInt ≠ 2 := fun h => h2 (Int32.toInt_inj.mp h)
  have a3 : x.toInt ≠ 3 := fun h => h3 (Int32.toInt_inj.mp h)
  have a4 : x.toInt ≠ 4 := fun h => h4 (Int32.toInt_inj.mp h)
  have a5 : x.toInt ≠ 5 := fun h => h5 (Int32.toInt_inj.mp h)
  have a6 : x.toInt ≠ 6 := fun h => h6 (Int32.toInt_inj.mp h)
  omega
theorem kc_out3 {x : Int32} (h0 : ¬ x = 8) (h1 : ¬ x = 9) (h2 : ¬ x = 10) : x.toInt < 8 ∨ 10 < x.toInt := by
  have a0 : x.toInt ≠ 8 := fun h => h0 (Int32.toInt_inj.mp h)
  have a1 : x.toInt ≠ 9 := fun h => h1 (Int32.toInt_inj.mp h)
  have a2 : x.toInt ≠ 10 := fun h => h2 (Int32.toInt_inj.mp h)
  omega
def F_m_thrown (c : mw_C) : Int32 :=
  c.1.1
def rm_m_thrown : Room := { frames := 0, cells := 0, slots := 0, locals := 0 }
set_option maxHeartbeats 4000000 in
set_option maxRecDepth 100000 in
theorem C_m_thrown (l : Launch) (D : va_G) (ty : List (ClassId × FieldType)) (sz : Nat) (G : mw_G) (Z : va_W) (hG : mw_ok ty sz G Z) (c : mw_C)  : kp_R l yX3_thrown cX3_thrown 1 (some .int) rm_m_thrown D ty sz [.ref (bM G)] (mw_W G c Z) (some (.int (F_m_thrown c))) := by
  refine kp_bodyR (by decide) (Nat.le_of_ble_eq_true rfl) rfl ?_
  intro p e s m args below meth cd ls B hl hP hS
  obtain ⟨hx, hb, hml, hown, hlk, hr, hw, hE, hK, hsz⟩ := id B
  have hl : lv_has ls 1 [(0, .ref (bM G))] := hl
  refine lv_aload_n hx hb dX3_thrown_0 rfl (lv_at hl 0 rfl) ?_
  refine km_get (j := 0) (v := .int c.1.1) B hP rfl (by decide) kw_244 dX3_thrown_1 ?_
  exact kp_retiR B rfl dX3_thrown_4
def F_m_raise (c : mw_C) (x : Int32) : Int32 :=
  (0 : Int32)
def S_m_raise (c : mw_C) (x : Int32) : mw_C :=
  mp_thrown c x
def rm_m_raise : Room := { frames := 0, cells := 0, slots := 0, locals := 0 }
set_option maxHeartbeats 4000000 in
set_option maxRecDepth 100000 in
theorem C_m_raise (l : Launch) (D : va_G) (ty : List (ClassId × FieldType)) (sz : Nat) (G : mw_G) (Z : va_W) (hG : mw_ok ty sz G Z) (c : mw_C) (x : Int32) : kp_M l yX3_raise cX3_raise 2 (some .int) rm_m_raise D ty sz [.ref (bM G), .int x] (mw_W G c Z) (some (.int (F_m_raise c x))) (mw_W G (S_m_raise c x) Z) := by
  refine kp_body (by decide) (Nat.le_of_ble_eq_true rfl) rfl ?_
  intro p e s m args below meth cd ls B hin hl hP hS
  obtain ⟨hx, hb, hml, hown, hlk, hr, hw, hE, hK, hsz⟩ := id B
  have hl : lv_has ls 2 [(0, .ref (bM G)), (1, .int x)] := hl
  refine lv_aload_n hx hb dX3_raise_0 rfl (lv_at hl 0 rfl) ?_
  refine lv_iload_n hx hb dX3_raise_1 rfl (lv_at hl 1 rfl) ?_
  refine km_put0 (v := x) (M' := mp_thrown c x) B hG hP hS rfl kw_244 dX3_raise_2 (fun H locs hP hS => ?_)
  refine lv_iconst (v := (0 : Int32)) hx hb dX3_raise_5 (by decide) ?_
  exact kp_reti B hP hS rfl dX3_raise_6
def F_m_fine (c : mw_C) : Int32 :=
  (((1 : Int32) <<< ((c.1.2.1 - (1 : Int32)) &&& 31)) - (2 : Int32)) + c.1.2.2
def rm_m_fine : Room := { frames := 0, cells := 0, slots := 0, locals := 0 }
set_option maxHeartbeats 4000000 in
set_option maxRecDepth 100000 in
theorem C_m_fine (l : Launch) (D : va_G) (ty : List (ClassId × FieldType)) (sz : Nat) (G : mw_G) (Z : va_W) (hG : mw_ok ty sz G Z) (c : mw_C)  : kp_R l yX3_fine cX3_fine 1 (some .int) rm_m_fine D ty sz [.ref (bM G)] (mw_W G c Z) (some (.int (F_m_fine c))) := by
  refine kp_bodyR (by decide) (Nat.le_of_ble_eq_true rfl) rfl ?_
  intro p e s m args below meth cd ls B hl hP hS
  obtain ⟨hx, hb, hml, hown, hlk, hr, hw, hE, hK, hsz⟩ := id B
  have hl : lv_has ls 1 [(0, .ref (bM G))] := hl
  refine lv_iconst (v := (1 : Int32)) hx hb dX3_fine_0 (by decide) ?_
  refine lv_aload_n hx hb dX3_fine_1 rfl (lv_at hl 0 rfl) ?_
  refine km_get (j := 1) (v := .int c.1.2.1) B hP rfl (by decide) kw_245 dX3_fine_2 ?_
  refine lv_iconst (v := (1 : Int32)) hx hb dX3_fine_5 (by decide) ?_
  refine lv_isub hx hb dX3_fine_6 ?_
  refine lv_ishl hx hb dX3_fine_7 ?_
  refine lv_iconst (v := (2 : Int32)) hx hb dX3_fine_8 (by decide) ?_
  refine lv_isub hx hb dX3_fine_9 ?_
  refine lv_aload_n hx hb dX3_fine_10 rfl (lv_at hl 0 rfl) ?_
  refine km_get (j := 2) (v := .int c.1.2.2) B hP rfl (by decide) kw_246 dX3_fine_11 ?_
  refine lv_iadd hx hb dX3_fine_14 ?_
  exact kp_retiR B rfl dX3_fine_15
def F_m_most (c : mw_C) : Int64 :=
  (((2 : Int64) <<< (c.1.2.2.toInt64 &&& 63)) - (1 : Int64)) <<< ((((1 : Int32) <<< (c.1.2.1 &&& 31)) - (3 : Int32)).toInt64 &&& 63)
def rm_m_most : Room := { frames := 0, cells := 0, slots := 0, locals := 0 }
set_option maxHeartbeats 4000000 in
set_option maxRecDepth 100000 in
theorem C_m_most (l : Launch) (D : va_G) (ty : List (ClassId × FieldType)) (sz : Nat) (G : mw_G) (Z : va_W) (hG : mw_ok ty sz G Z) (c : mw_C)  : kp_R l yX3_most cX3_most 1 (some .long) rm_m_most D ty sz [.ref (bM G)] (mw_W G c Z) (some (.long (F_m_most c))) := by
  refine kp_bodyR (by decide) (Nat.le_of_ble_eq_true rfl) rfl ?_
  intro p e s m args below meth cd ls B hl hP hS
  obtain ⟨hx, hb, hml, hown, hlk, hr, hw, hE, hK, hsz⟩ := id B
  have hl : lv_has ls 1 [(0, .ref (bM G))] := hl
  refine lv_ldc2 (v := (2 : Int64)) hx hb hown (hw _ kw_247 rfl) dX3_most_0 ?_
  refine lv_aload_n hx hb dX3_most_3 rfl (lv_at hl 0 rfl) ?_
  refine km_get (j := 2) (v := .int c.1.2.2) B hP rfl (by decide) kw_246 dX3_most_4 ?_
  refine lv_lshl (v := (2 : Int64) <<< (c.1.2.2.toInt64 &&& 63)) hx hb dX3_most_7 rfl ?_
  refine lv_lconst (v := (1 : Int64)) hx hb dX3_most_8 (by decide) ?_
  refine lv_lsub hx hb dX3_most_9 ?_
  refine lv_iconst (v := (1 : Int32)) hx hb dX3_most_10 (by decide) ?_
  refine lv_aload_n hx hb dX3_most_11 rfl (lv_at hl 0 rfl) ?_
  refine km_get (j := 1) (v := .int c.1.2.1) B hP rfl (by decide) kw_245 dX3_most_12 ?_
  refine lv_ishl hx hb dX3_most_15 ?_
  refine lv_iconst (v := (3 : Int32)) hx hb dX3_most_16 (by decide) ?_
  refine lv_isub hx hb dX3_most_17 ?_
  refine lv_lshl (v := (((2 : Int64) <<< (c.1.2.2.toInt64 &&& 63)) - (1 : Int64)) <<< ((((1 : Int32) <<< (c.1.2.1 &&& 31)) - (3 : Int32)).toInt64 &&& 63)) hx hb dX3_most_18 rfl ?_
  exact kp_retlR B rfl dX3_most_19
def F_m_endless (c : mw_C) : Int32 :=
  (((1 : Int32) <<< (c.1.2.1 &&& 31)) - (1 : Int32)) <<< (c.1.2.2 &&& 31)
def rm_m_endless : Room := { frames := 0, cells := 0, slots := 0, locals := 0 }
set_option maxHeartbeats 4000000 in
set_option maxRecDepth 100000 in
theorem C_m_endless (l : Launch) (D : va_G) (ty : List (ClassId × FieldType)) (sz : Nat) (G : mw_G) (Z : va_W) (hG : mw_ok ty sz G Z) (c : mw_C)  : kp_R l yX3_endless cX3_endless 1 (some .int) rm_m_endless D ty sz [.ref (bM G)] (mw_W G c Z) (some (.int (F_m_endless c))) := by
  refine kp_bodyR (by decide) (Nat.le_of_ble_eq_true rfl) rfl ?_
  intro p e s m args below meth cd ls B hl hP hS
  obtain ⟨hx, hb, hml, hown, hlk, hr, hw, hE, hK, hsz⟩ := id B
  have hl : lv_has ls 1 [(0, .ref (bM G))] := hl
  refine lv_iconst (v := (1 : Int32)) hx hb dX3_endless_0 (by decide) ?_
  refine lv_aload_n hx hb dX3_endless_1 rfl (lv_at hl 0 rfl) ?_
  refine km_get (j := 1) (v := .int c.1.2.1) B hP rfl (by decide) kw_245 dX3_endless_2 ?_
  refine lv_ishl hx hb dX3_endless_5 ?_
  refine lv_iconst (v := (1 : Int32)) hx hb dX3_endless_6 (by decide) ?_
  refine lv_isub hx hb dX3_endless_7 ?_
  refine lv_aload_n hx hb dX3_endless_8 rfl (lv_at hl 0 rfl) ?_
  refine km_get (j := 2) (v := .int c.1.2.2) B hP rfl (by decide) kw_246 dX3_endless_9 ?_
  refine lv_ishl hx hb dX3_endless_12 ?_
  exact kp_retiR B rfl dX3_endless_13
def F_m_isPattern (c : mw_C) (x : Int32) : Int32 :=
  if x < (0 : Int32) then (0 : Int32) else (if (x >>> ((((1 : Int32) + c.1.2.1) + c.1.2.2) &&& 31)) = (0 : Int32) then (if (F_m_endless c) < (x &&& (((1 : Int32) <<< ((c.1.2.1 + c.1.2.2) &&& 31)) - (1 : Int32))) then (0 : Int32) else (1 : Int32)) else (0 : Int32))
def rm_m_isPattern : Room := { frames := 1, cells := 0, slots := 0, locals := 20 }
set_option maxHeartbeats 4000000 in
set_option maxRecDepth 100000 in
theorem C_m_isPattern (l : Launch) (D : va_G) (ty : List (ClassId × FieldType)) (sz : Nat) (G : mw_G) (Z : va_W) (hG : mw_ok ty sz G Z) (c : mw_C) (x : Int32) : kp_R l yX3_isPattern cX3_isPattern 2 (some .boolean) rm_m_isPattern D ty sz [.ref (bM G), .int x] (mw_W G c Z) (some (.int (F_m_isPattern c x))) := by
  refine kp_bodyR (by decide) (Nat.le_of_ble_eq_true rfl) rfl ?_
  intro p e s m args below meth cd ls B hl hP hS
  obtain ⟨hx, hb, hml, hown, hlk, hr, hw, hE, hK, hsz⟩ := id B
  have hl : lv_has ls 2 [(0, .ref (bM G)), (1, .int x)] := hl
  refine lv_iload_n hx hb dX3_isPattern_0 rfl (lv_at hl 1 rfl) ?_
  refine lv_if_lt (tgt := 46) hx hb dX3_isPattern_1 (by decide) (fun q_1 => ?_) (fun q_1 => ?_)
  · refine lv_iconst (v := (0 : Int32)) hx hb dX3_isPattern_46 (by decide) ?_
    exact kp_retzR B (by simp only [F_m_isPattern, if_pos q_1]) (Or.inl rfl) dX3_isPattern_47
  · refine lv_iload_n hx hb dX3_isPattern_4 rfl (lv_at hl 1 rfl) ?_
    refine lv_iconst (v := (1 : Int32)) hx hb dX3_isPattern_5 (by decide) ?_
    refine lv_aload_n hx hb dX3_isPattern_6 rfl (lv_at hl 0 rfl) ?_
    refine km_get (j := 1) (v := .int c.1.2.1) B hP rfl (by decide) kw_245 dX3_isPattern_7 ?_
    refine lv_iadd hx hb dX3_isPattern_10 ?_
    refine lv_aload_n hx hb dX3_isPattern_11 rfl (lv_at hl 0 rfl) ?_
    refine km_get (j := 2) (v := .int c.1.2.2) B hP rfl (by decide) kw_246 dX3_isPattern_12 ?_
    refine lv_iadd hx hb dX3_isPattern_15 ?_
    refine lv_ishr hx hb dX3_isPattern_16 ?_
    refine lv_if_ne (tgt := 46) hx hb dX3_isPattern_17 (by decide) (fun q_2 => ?_) (fun q_2 => ?_)
    · refine lv_iconst (v := (0 : Int32)) hx hb dX3_isPattern_46 (by decide) ?_
      exact kp_retzR B (by simp only [F_m_isPattern, if_neg q_1, if_neg q_2]) (Or.inl rfl) dX3_isPattern_47
    · refine lv_iload_n hx hb dX3_isPattern_20 rfl (lv_at hl 1 rfl) ?_
      refine lv_iconst (v := (1 : Int32)) hx hb dX3_isPattern_21 (by decide) ?_
      refine lv_aload_n hx hb dX3_isPattern_22 rfl (lv_at hl 0 rfl) ?_
      refine km_get (j := 1) (v := .int c.1.2.1) B hP rfl (by decide) kw_245 dX3_isPattern_23 ?_
      refine lv_aload_n hx hb dX3_isPattern_26 rfl (lv_at hl 0 rfl) ?_
      refine km_get (j := 2) (v := .int c.1.2.2) B hP rfl (by decide) kw_246 dX3_isPattern_27 ?_
      refine lv_iadd hx hb dX3_isPattern_30 ?_
      refine lv_ishl hx hb dX3_isPattern_31 ?_
      refine lv_iconst (v := (1 : Int32)) hx hb dX3_isPattern_32 (by decide) ?_
      refine lv_isub hx hb dX3_isPattern_33 ?_
      refine lv_iand hx hb dX3_isPattern_34 ?_
      refine lv_aload_n hx hb dX3_isPattern_35 rfl (lv_at hl 0 rfl) ?_
      refine kp_callVR (rm := rm_m_endless) (As := []) (rest := [.int (x &&& (((1 : Int32) <<< ((c.1.2.1 + c.1.2.2) &&& 31)) - (1 : Int32)))]) (r := some (.int (F_m_endless c))) (st1 := [.int (F_m_endless c), .int (x &&& (((1 : Int32) <<< ((c.1.2.1 + c.1.2.2) &&& 31)) - (1 : Int32)))]) B (C_m_endless l D ty sz G Z hG c) kt_m_endless kw_250 kw_251 kw_252 (km_rc B hP) (by decide) ⟨rfl, rfl⟩ (by decide) rfl (Nat.le_of_ble_eq_true rfl) hl.1 hP hS dX3_isPattern_36 rfl ?_
      refine lv_icmp_gt (tgt := 46) hx hb dX3_isPattern_39 (by decide) (fun q_3 => ?_) (fun q_3 => ?_)
      · refine lv_iconst (v := (0 : Int32)) hx hb dX3_isPattern_46 (by decide) ?_
        exact kp_retzR B (by simp only [F_m_isPattern, if_neg q_1, if_pos q_2, if_pos q_3]) (Or.inl rfl) dX3_isPattern_47
      · refine lv_iconst (v := (1 : Int32)) hx hb dX3_isPattern_42 (by decide) ?_
        refine lv_goto (tgt := 47) hx hb dX3_isPattern_43 (by decide) ?_
        exact kp_retzR B (by simp only [F_m_isPattern, if_neg q_1, if_pos q_2, if_neg q_3]) (Or.inr rfl) dX3_isPattern_47
def I_m_number_1 (c : mw_C) (x : Int32) : Int32 := (x &&& (((1 : Int32) <<< ((c.1.2.1 + c.1.2.2) &&& 31)) - (1 : Int32))) >>> (c.1.2.2 &&& 31)
def A_m_number_2 (c : mw_C) (x : Int32) : Int64 := ((x &&& (((1 : Int32) <<< ((c.1.2.1 + c.1.2.2) &&& 31)) - (1 : Int32))) &&& (((1 : Int32) <<< (c.1.2.2 &&& 31)) - (1 : Int32))).toInt64
def A_m_number_3 (c : mw_C) (x : Int32) : Int64 := if (x &&& (((1 : Int32) <<< ((c.1.2.1 + c.1.2.2) &&& 31)) - (1 : Int32))) = (F_m_endless c) then mw_far else (if (I_m_number_1 c x) = (0 : Int32) then A_m_number_2 c x else ((A_m_number_2 c x) + ((1 : Int64) <<< (c.1.2.2.toInt64 &&& 63))) <<< (((I_m_number_1 c x) - (1 : Int32)).toInt64 &&& 63))
def F_m_number (c : mw_C) (x : Int32) : Int64 :=
  if (x &&& (((1 : Int32) <<< ((c.1.2.1 + c.1.2.2) &&& 31)) - (1 : Int32))) = x then A_m_number_3 c x else -(A_m_number_3 c x)
def rm_m_number : Room := { frames := 1, cells := 0, slots := 0, locals := 20 }
set_option maxHeartbeats 4000000 in
set_option maxRecDepth 100000 in
theorem C_m_number (l : Launch) (D : va_G) (ty : List (ClassId × FieldType)) (sz : Nat) (G : mw_G) (Z : va_W) (hG : mw_ok ty sz G Z) (c : mw_C) (x : Int32) : kp_R l yX3_number cX3_number 8 (some .long) rm_m_number D ty sz [.ref (bM G), .int x] (mw_W G c Z) (some (.long (F_m_number c x))) := by
  refine kp_bodyR (by decide) (Nat.le_of_ble_eq_true rfl) rfl ?_
  intro p e s m args below meth cd ls B hl hP hS
  obtain ⟨hx, hb, hml, hown, hlk, hr, hw, hE, hK, hsz⟩ := id B
  have hl : lv_has ls 8 [(0, .ref (bM G)), (1, .int x)] := hl
  refine lv_iload_n hx hb dX3_number_0 rfl (lv_at hl 1 rfl) ?_
  refine lv_iconst (v := (1 : Int32)) hx hb dX3_number_1 (by decide) ?_
  refine lv_aload_n hx hb dX3_number_2 rfl (lv_at hl 0 rfl) ?_
  refine km_get (j := 1) (v := .int c.1.2.1) B hP rfl (by decide) kw_245 dX3_number_3 ?_
  refine lv_aload_n hx hb dX3_number_6 rfl (lv_at hl 0 rfl) ?_
  refine km_get (j := 2) (v := .int c.1.2.2) B hP rfl (by decide) kw_246 dX3_number_7 ?_
  refine lv_iadd hx hb dX3_number_10 ?_
  refine lv_ishl hx hb dX3_number_11 ?_
  refine lv_iconst (v := (1 : Int32)) hx hb dX3_number_12 (by decide) ?_
  refine lv_isub hx hb dX3_number_13 ?_
  refine lv_iand hx hb dX3_number_14 ?_
  refine lv_istore_n (lv' := [(2, .int (x &&& (((1 : Int32) <<< ((c.1.2.1 + c.1.2.2) &&& 31)) - (1 : Int32)))), (0, .ref (bM G)), (1, .int x)]) hx hb dX3_number_15 rfl hl (by decide) rfl (fun ls hl => ?_)
  refine lv_iload_n hx hb dX3_number_16 rfl (lv_at hl 0 rfl) ?_
  refine lv_aload_n hx hb dX3_number_17 rfl (lv_at hl 1 rfl) ?_
  refine km_get (j := 2) (v := .int c.1.2.2) B hP rfl (by decide) kw_246 dX3_number_18 ?_
  refine lv_ishr hx hb dX3_number_21 ?_
  refine W.eq (g2 := F0 m 22 ls [.int (I_m_number_1 c x)]) rfl ?_
  refine lv_istore_n (lv' := [(3, .int (I_m_number_1 c x)), (2, .int (x &&& (((1 : Int32) <<< ((c.1.2.1 + c.1.2.2) &&& 31)) - (1 : Int32)))), (0, .ref (bM G)), (1, .int x)]) hx hb dX3_number_22 rfl hl (by decide) rfl (fun ls hl => ?_)
  refine lv_iload_n hx hb dX3_number_23 rfl (lv_at hl 1 rfl) ?_
  refine lv_iconst (v := (1 : Int32)) hx hb dX3_number_24 (by decide) ?_
  refine lv_aload_n hx hb dX3_number_25 rfl (lv_at hl 2 rfl) ?_
  refine km_get (j := 2) (v := .int c.1.2.2) B hP rfl (by decide) kw_246 dX3_number_26 ?_
  refine lv_ishl hx hb dX3_number_29 ?_
  refine lv_iconst (v := (1 : Int32)) hx hb dX3_number_30 (by decide) ?_
  refine lv_isub hx hb dX3_number_31 ?_
  refine lv_iand hx hb dX3_number_32 ?_
  refine lv_i2l (v := ((x &&& (((1 : Int32) <<< ((c.1.2.1 + c.1.2.2) &&& 31)) - (1 : Int32))) &&& (((1 : Int32) <<< (c.1.2.2 &&& 31)) - (1 : Int32))).toInt64) hx hb dX3_number_33 rfl ?_
  refine W.eq (g2 := F0 m 34 ls [.long (A_m_number_2 c x)]) rfl ?_
  refine lv_lstore (lv' := [(4, .long (A_m_number_2 c x)), (3, .int (I_m_number_1 c x)), (2, .int (x &&& (((1 : Int32) <<< ((c.1.2.1 + c.1.2.2) &&& 31)) - (1 : Int32)))), (0, .ref (bM G)), (1, .int x)]) hx hb dX3_number_34 hl (by decide) rfl (fun ls hl => ?_)
  refine lv_iload_n hx hb dX3_number_36 rfl (lv_at hl 2 rfl) ?_
  refine lv_aload_n hx hb dX3_number_37 rfl (lv_at hl 3 rfl) ?_
  refine kp_callVR (rm := rm_m_endless) (As := []) (rest := [.int (x &&& (((1 : Int32) <<< ((c.1.2.1 + c.1.2.2) &&& 31)) - (1 : Int32)))]) (r := some (.int (F_m_endless c))) (st1 := [.int (F_m_endless c), .int (x &&& (((1 : Int32) <<< ((c.1.2.1 + c.1.2.2) &&& 31)) - (1 : Int32)))]) B (C_m_endless l D ty sz G Z hG c) kt_m_endless kw_250 kw_251 kw_252 (km_rc B hP) (by decide) ⟨rfl, rfl⟩ (by decide) rfl (Nat.le_of_ble_eq_true rfl) hl.1 hP hS dX3_number_38 rfl ?_
  have hJ72 : W p l e rm_m_number s m args below meth cd s.heap [] 0 0 (MQ below (kp_QR (some (.long (F_m_number c x)))) args s 0 0 (fun _ => False)) (F0 m 72 ls [.long (if (x &&& (((1 : Int32) <<< ((c.1.2.1 + c.1.2.2) &&& 31)) - (1 : Int32))) = (F_m_endless c) then mw_far else (if (I_m_number_1 c x) = (0 : Int32) then A_m_number_2 c x else ((A_m_number_2 c x) + ((1 : Int64) <<< (c.1.2.2.toInt64 &&& 63))) <<< (((I_m_number_1 c x) - (1 : Int32)).toInt64 &&& 63)))]) := by
    refine W.eq (g2 := F0 m 72 ls [.long (A_m_number_3 c x)]) rfl ?_
    refine lv_lstore (lv' := [(6, .long (A_m_number_3 c x)), (4, .long (A_m_number_2 c x)), (3, .int (I_m_number_1 c x)), (2, .int (x &&& (((1 : Int32) <<< ((c.1.2.1 + c.1.2.2) &&& 31)) - (1 : Int32)))), (0, .ref (bM G)), (1, .int x)]) hx hb dX3_number_72 hl (by decide) rfl (fun ls hl => ?_)
    refine lv_iload_n hx hb dX3_number_74 rfl (lv_at hl 3 rfl) ?_
    refine lv_iload_n hx hb dX3_number_75 rfl (lv_at hl 5 rfl) ?_
    refine lv_icmp_ne (tgt := 84) hx hb dX3_number_76 (by decide) (fun q_1 => ?_) (fun q_1 => ?_)
    · refine lv_lload hx hb dX3_number_84 (lv_at hl 0 rfl) ?_
      refine lv_lneg hx hb dX3_number_86 ?_
      exact kp_retlR B (by simp only [F_m_number, if_neg q_1]) dX3_number_87
    · refine lv_lload hx hb dX3_number_79 (lv_at hl 0 rfl) ?_
      refine lv_goto (tgt := 87) hx hb dX3_number_81 (by decide) ?_
      exact kp_retlR B (by simp only [F_m_number, if_pos q_1]) dX3_number_87
  refine lv_icmp_ne (tgt := 50) hx hb dX3_number_41 (by decide) (fun q_2 => ?_) (fun q_2 => ?_)
  · refine lv_iload_n hx hb dX3_number_50 rfl (lv_at hl 1 rfl) ?_
    refine lv_if_ne (tgt := 59) hx hb dX3_number_51 (by decide) (fun q_3 => ?_) (fun q_3 => ?_)
    · refine lv_lload hx hb dX3_number_59 (lv_at hl 0 rfl) ?_
      refine lv_lconst (v := (1 : Int64)) hx hb dX3_number_61 (by decide) ?_
      refine lv_aload_n hx hb dX3_number_62 rfl (lv_at hl 3 rfl) ?_
      refine km_get (j := 2) (v := .int c.1.2.2) B hP rfl (by decide) kw_246 dX3_number_63 ?_
      refine lv_lshl (v := (1 : Int64) <<< (c.1.2.2.toInt64 &&& 63)) hx hb dX3_number_66 rfl ?_
      refine lv_ladd hx hb dX3_number_67 ?_
      refine lv_iload_n hx hb dX3_number_68 rfl (lv_at hl 1 rfl) ?_
      refine lv_iconst (v := (1 : Int32)) hx hb dX3_number_69 (by decide) ?_
      refine lv_isub hx hb dX3_number_70 ?_
      refine lv_lshl (v := ((A_m_number_2 c x) + ((1 : Int64) <<< (c.1.2.2.toInt64 &&& 63))) <<< (((I_m_number_1 c x) - (1 : Int32)).toInt64 &&& 63)) hx hb dX3_number_71 rfl ?_
      exact kp_jJ (by simp only [if_neg q_2, if_neg q_3]) hJ72
    · refine lv_lload hx hb dX3_number_54 (lv_at hl 0 rfl) ?_
      refine lv_goto (tgt := 72) hx hb dX3_number_56 (by decide) ?_
      exact kp_jJ (by simp only [if_neg q_2, if_pos q_3]) hJ72
  · refine lv_ldc2 (v := mw_far) hx hb hown (hw _ kw_253 rfl) dX3_number_44 ?_
    refine lv_goto (tgt := 72) hx hb dX3_number_47 (by decide) ?_
    exact kp_jJ (by simp only [if_pos q_2]) hJ72
def LF_m_length (x : Int64) : Nat → Int32 → Int32
  | 0, i => 0
  | n + 1, i => if (x >>> (i.toInt64 &&& 63)) ≤ (0 : Int64) then i else LF_m_length x n (i + (1 : Int32))
def F_m_length (x : Int64) : Int32 :=
  LF_m_length x 64 (0 : Int32)
def rm_m_length : Room := { frames := 0, cells := 0, slots := 0, locals := 0 }
set_option maxHeartbeats 4000000 in
set_option maxRecDepth 100000 in
theorem LP_m_length (l : Launch) (D : va_G) (ty : List (ClassId × FieldType)) (sz : Nat) (G : mw_G) (Z : va_W) (hG : mw_ok ty sz G Z) (c : mw_C) (x : Int64) {p : Program} {e : Env} {s : State} {m : MethodId} {args : Array Value} {below : List Frame} {meth : Method} {cd : Code} (B : kp_B p l s m args meth cd yX3_length.cls cX3_length 3 (some .int) D ty sz) (hP : va_P D vwCl (mw_W G c Z) s.heap) :
    ∀ (n : Nat) (i : Int32) (h1 : 0 ≤ i.toInt) (h2 : 64 ≤ i.toInt + n) (h3 : i.toInt ≤ 63), ∀ (ls : Array Slot), lv_has ls 3 [(0, .long x), (2, .int i)] → W p l e rm_m_length s m args below meth cd s.heap [] 0 0 (MQ below (kp_QR (some (.int (LF_m_length x n i)))) args s 0 0 (fun _ => False)) (F0 m 2 ls []) := by
  obtain ⟨hx, hb, hml, hown, hlk, hr, hw, hE, hK, hsz⟩ := id B
  intro n
  induction n with
  | zero =>
    intro i h1 h2 h3
    exact absurd h2 (by omega)
  | succ n ih =>
    intro i h1 h2 h3 ls hl
    have hS : va_S (kp_A sz) s.heap s.heap [] := va_S.rf
    refine lv_lload_n hx hb dX3_length_2 rfl (lv_at hl 0 rfl) ?_
    refine lv_iload_n hx hb dX3_length_3 rfl (lv_at hl 1 rfl) ?_
    refine lv_lshr (v := x >>> (i.toInt64 &&& 63)) hx hb dX3_length_4 rfl ?_
    refine lv_lconst (v := (0 : Int64)) hx hb dX3_length_5 (by decide) ?_
    refine kp_lle (tgt := 16) hx hb dX3_length_6 dX3_length_7 (by decide) (fun q_1 => ?_) (fun q_1 => ?_)
    · refine lv_iload_n hx hb dX3_length_16 rfl (lv_at hl 1 rfl) ?_
      exact kp_retiR B (by simp only [LF_m_length, if_pos q_1]) dX3_length_17
    · refine lv_iinc (v := i + (1 : Int32)) (lv' := [(2, .int (i + (1 : Int32))), (0, .long x)]) hx hb dX3_length_10 hl (k := 1) rfl rfl (by decide) rfl (fun ls hl => ?_)
      refine lv_goto (tgt := 2) hx hb dX3_length_13 (by decide) ?_
      rw [show LF_m_length x (n + 1) i = LF_m_length x n (i + (1 : Int32)) from by simp only [LF_m_length, if_neg q_1]]
      exact ih (i + (1 : Int32)) (ki_len h1 h3 q_1 h2).1 (ki_len h1 h3 q_1 h2).2.1 (ki_len h1 h3 q_1 h2).2.2 ls (lv_sub hl [1, 0] rfl)
set_option maxHeartbeats 4000000 in
set_option maxRecDepth 100000 in
theorem C_m_length (l : Launch) (D : va_G) (ty : List (ClassId × FieldType)) (sz : Nat) (G : mw_G) (Z : va_W) (hG : mw_ok ty sz G Z) (c : mw_C) (x : Int64) : kp_R l yX3_length cX3_length 3 (some .int) rm_m_length D ty sz [.long x] (mw_W G c Z) (some (.int (F_m_length x))) := by
  refine kp_bodyR (by decide) (Nat.le_of_ble_eq_true rfl) rfl ?_
  intro p e s m args below meth cd ls B hl hP hS
  obtain ⟨hx, hb, hml, hown, hlk, hr, hw, hE, hK, hsz⟩ := id B
  have hl : lv_has ls 3 [(0, .long x)] := hl
  refine lv_iconst (v := (0 : Int32)) hx hb dX3_length_0 (by decide) ?_
  refine lv_istore_n (lv' := [(2, .int (0 : Int32)), (0, .long x)]) hx hb dX3_length_1 rfl hl (by decide) rfl (fun ls hl => ?_)
  exact LP_m_length l D ty sz G Z hG c x B hP 64 (0 : Int32) (by decide) (by decide) (by decide) ls (lv_sub hl [1, 0] rfl)
def I_m_pattern_1 (c : mw_C) (x : Int64) : Int32 := ((((((F_m_length (if (0 : Int64) ≤ x then x else -x)) - c.1.2.2) - (1 : Int32)) + (1 : Int32)) <<< (c.1.2.2 &&& 31)) + (((if (0 : Int64) ≤ x then x else -x) >>> ((((F_m_length (if (0 : Int64) ≤ x then x else -x)) - c.1.2.2) - (1 : Int32)).toInt64 &&& 63)).toInt32)) - ((1 : Int32) <<< (c.1.2.2 &&& 31))
def I_m_pattern_2 (c : mw_C) (x : Int64) : Int32 := if (if (0 : Int64) ≤ x then x else -x) < mw_far then (if ((if (0 : Int64) ≤ x then x else -x) >>> (c.1.2.2.toInt64 &&& 63)) = (0 : Int64) then (if (0 : Int64) ≤ x then x else -x).toInt32 else I_m_pattern_1 c x) else F_m_endless c
def F_m_pattern (c : mw_C) (x : Int64) : Int32 :=
  if (0 : Int64) ≤ x then I_m_pattern_2 c x else (I_m_pattern_2 c x) + ((1 : Int32) <<< ((c.1.2.1 + c.1.2.2) &&& 31))
def rm_m_pattern : Room := { frames := 1, cells := 0, slots := 0, locals := 22 }
set_option maxHeartbeats 4000000 in
set_option maxRecDepth 100000 in
theorem C_m_pattern (l : Launch) (D : va_G) (ty : List (ClassId × FieldType)) (sz : Nat) (G : mw_G) (Z : va_W) (hG : mw_ok ty sz G Z) (c : mw_C) (x : Int64) : kp_R l yX3_pattern cX3_pattern 7 (some .int) rm_m_pattern D ty sz [.ref (bM G), .long x] (mw_W G c Z) (some (.int (F_m_pattern c x))) := by
  refine kp_bodyR (by decide) (Nat.le_of_ble_eq_true rfl) rfl ?_
  intro p e s m args below meth cd ls B hl hP hS
  obtain ⟨hx, hb, hml, hown, hlk, hr, hw, hE, hK, hsz⟩ := id B
  have hl : lv_has ls 7 [(0, .ref (bM G)), (1, .long x)] := hl
  refine lv_lload_n hx hb dX3_pattern_0 rfl (lv_at hl 1 rfl) ?_
  refine lv_lconst (v := (0 : Int64)) hx hb dX3_pattern_1 (by decide) ?_
  have hJ12 : W p l e rm_m_pattern s m args below meth cd s.heap [] 0 0 (MQ below (kp_QR (some (.int (F_m_pattern c x)))) args s 0 0 (fun _ => False)) (F0 m 12 ls [.long (if (0 : Int64) ≤ x then x else -x)]) := by
    refine lv_lstore_n (lv' := [(3, .long (if (0 : Int64) ≤ x then x else -x)), (0, .ref (bM G)), (1, .long x)]) hx hb dX3_pattern_12 rfl hl (by decide) rfl (fun ls hl => ?_)
    refine lv_lload_n hx hb dX3_pattern_13 rfl (lv_at hl 0 rfl) ?_
    refine lv_ldc2 (v := mw_far) hx hb hown (hw _ kw_253 rfl) dX3_pattern_14 ?_
    have hJ85 : ∀ ls : Array Slot, lv_has ls 7 [(0, .ref (bM G)), (1, .long x), (3, .long (if (0 : Int64) ≤ x then x else -x)), (5, .int (I_m_pattern_2 c x))] → W p l e rm_m_pattern s m args below meth cd s.heap [] 0 0 (MQ below (kp_QR (some (.int (F_m_pattern c x)))) args s 0 0 (fun _ => False)) (F0 m 85 ls []) := by
      intro ls hl
      refine lv_lload_n hx hb dX3_pattern_85 rfl (lv_at hl 1 rfl) ?_
      refine lv_lconst (v := (0 : Int64)) hx hb dX3_pattern_86 (by decide) ?_
      refine kp_lge (tgt := 108) hx hb dX3_pattern_87 dX3_pattern_88 (by decide) (fun q_1 => ?_) (fun q_1 => ?_)
      · refine lv_iload hx hb dX3_pattern_108 (lv_at hl 3 rfl) ?_
        exact kp_retiR B (by simp only [F_m_pattern, if_pos q_1]) dX3_pattern_110
      · refine lv_iload hx hb dX3_pattern_91 (lv_at hl 3 rfl) ?_
        refine lv_iconst (v := (1 : Int32)) hx hb dX3_pattern_93 (by decide) ?_
        refine lv_aload_n hx hb dX3_pattern_94 rfl (lv_at hl 0 rfl) ?_
        refine km_get (j := 1) (v := .int c.1.2.1) B hP rfl (by decide) kw_245 dX3_pattern_95 ?_
        refine lv_aload_n hx hb dX3_pattern_98 rfl (lv_at hl 0 rfl) ?_
        refine km_get (j := 2) (v := .int c.1.2.2) B hP rfl (by decide) kw_246 dX3_pattern_99 ?_
        refine lv_iadd hx hb dX3_pattern_102 ?_
        refine lv_ishl hx hb dX3_pattern_103 ?_
        refine lv_iadd hx hb dX3_pattern_104 ?_
        refine lv_goto (tgt := 110) hx hb dX3_pattern_105 (by decide) ?_
        exact kp_retiR B (by simp only [F_m_pattern, if_neg q_1]) dX3_pattern_110
    refine kp_llt (tgt := 30) hx hb dX3_pattern_17 dX3_pattern_18 (by decide) (fun q_2 => ?_) (fun q_2 => ?_)
    · refine lv_lload_n hx hb dX3_pattern_30 rfl (lv_at hl 0 rfl) ?_
      refine lv_aload_n hx hb dX3_pattern_31 rfl (lv_at hl 1 rfl) ?_
      refine km_get (j := 2) (v := .int c.1.2.2) B hP rfl (by decide) kw_246 dX3_pattern_32 ?_
      refine lv_lshr (v := (if (0 : Int64) ≤ x then x else -x) >>> (c.1.2.2.toInt64 &&& 63)) hx hb dX3_pattern_35 rfl ?_
      refine lv_lconst (v := (0 : Int64)) hx hb dX3_pattern_36 (by decide) ?_
      refine kp_lne (tgt := 48) hx hb dX3_pattern_37 dX3_pattern_38 (by decide) (fun q_3 => ?_) (fun q_3 => ?_)
      · refine lv_lload_n hx hb dX3_pattern_48 rfl (lv_at hl 0 rfl) ?_
        refine kp_callSR (rm := rm_m_length) (As := [.long (if (0 : Int64) ≤ x then x else -x)]) (rest := []) (r := some (.int (F_m_length (if (0 : Int64) ≤ x then x else -x)))) (st1 := [.int (F_m_length (if (0 : Int64) ≤ x then x else -x))]) B (C_m_length l D ty sz G Z hG c (if (0 : Int64) ≤ x then x else -x)) kt_m_length kw_256 kw_257 (by decide) ⟨rfl, rfl⟩ (by decide) rfl (Nat.le_of_ble_eq_true rfl) hl.1 hP hS dX3_pattern_49 rfl ?_
        refine lv_aload_n hx hb dX3_pattern_52 rfl (lv_at hl 1 rfl) ?_
        refine km_get (j := 2) (v := .int c.1.2.2) B hP rfl (by decide) kw_246 dX3_pattern_53 ?_
        refine lv_isub hx hb dX3_pattern_56 ?_
        refine lv_iconst (v := (1 : Int32)) hx hb dX3_pattern_57 (by decide) ?_
        refine lv_isub hx hb dX3_pattern_58 ?_
        refine lv_istore (lv' := [(6, .int (((F_m_length (if (0 : Int64) ≤ x then x else -x)) - c.1.2.2) - (1 : Int32))), (3, .long (if (0 : Int64) ≤ x then x else -x)), (0, .ref (bM G)), (1, .long x)]) hx hb dX3_pattern_59 hl (by decide) rfl (fun ls hl => ?_)
        refine lv_iload hx hb dX3_pattern_61 (lv_at hl 0 rfl) ?_
        refine lv_iconst (v := (1 : Int32)) hx hb dX3_pattern_63 (by decide) ?_
        refine lv_iadd hx hb dX3_pattern_64 ?_
        refine lv_aload_n hx hb dX3_pattern_65 rfl (lv_at hl 2 rfl) ?_
        refine km_get (j := 2) (v := .int c.1.2.2) B hP rfl (by decide) kw_246 dX3_pattern_66 ?_
        refine lv_ishl hx hb dX3_pattern_69 ?_
        refine lv_lload_n hx hb dX3_pattern_70 rfl (lv_at hl 1 rfl) ?_
        refine lv_iload hx hb dX3_pattern_71 (lv_at hl 0 rfl) ?_
        refine lv_lshr (v := (if (0 : Int64) ≤ x then x else -x) >>> ((((F_m_length (if (0 : Int64) ≤ x then x else -x)) - c.1.2.2) - (1 : Int32)).toInt64 &&& 63)) hx hb dX3_pattern_73 rfl ?_
        refine lv_l2i (v := ((if (0 : Int64) ≤ x then x else -x) >>> ((((F_m_length (if (0 : Int64) ≤ x then x else -x)) - c.1.2.2) - (1 : Int32)).toInt64 &&& 63)).toInt32) hx hb dX3_pattern_74 rfl ?_
        refine lv_iadd hx hb dX3_pattern_75 ?_
        refine lv_iconst (v := (1 : Int32)) hx hb dX3_pattern_76 (by decide) ?_
        refine lv_aload_n hx hb dX3_pattern_77 rfl (lv_at hl 2 rfl) ?_
        refine km_get (j := 2) (v := .int c.1.2.2) B hP rfl (by decide) kw_246 dX3_pattern_78 ?_
        refine lv_ishl hx hb dX3_pattern_81 ?_
        refine lv_isub hx hb dX3_pattern_82 ?_
        refine W.eq (g2 := F0 m 83 ls [.int (I_m_pattern_1 c x)]) rfl ?_
        refine lv_istore (lv' := [(5, .int (I_m_pattern_1 c x)), (6, .int (((F_m_length (if (0 : Int64) ≤ x then x else -x)) - c.1.2.2) - (1 : Int32))), (3, .long (if (0 : Int64) ≤ x then x else -x)), (0, .ref (bM G)), (1, .long x)]) hx hb dX3_pattern_83 hl (by decide) rfl (fun ls hl => ?_)
        exact hJ85 ls (kp_jl (lv_sub (l' := [(0, .ref (bM G)), (1, .long x), (3, .long (if (0 : Int64) ≤ x then x else -x)), (5, .int (I_m_pattern_1 c x))]) hl [3, 4, 2, 0] rfl) (by simp only [I_m_pattern_2, if_pos q_2, if_neg q_3]))
      · refine lv_lload_n hx hb dX3_pattern_41 rfl (lv_at hl 0 rfl) ?_
        refine lv_l2i (v := (if (0 : Int64) ≤ x then x else -x).toInt32) hx hb dX3_pattern_42 rfl ?_
        refine lv_istore (lv' := [(5, .int ((if (0 : Int64) ≤ x then x else -x).toInt32)), (3, .long (if (0 : Int64) ≤ x then x else -x)), (0, .ref (bM G)), (1, .long x)]) hx hb dX3_pattern_43 hl (by decide) rfl (fun ls hl => ?_)
        refine lv_goto (tgt := 85) hx hb dX3_pattern_45 (by decide) ?_
        exact hJ85 ls (kp_jl (lv_sub (l' := [(0, .ref (bM G)), (1, .long x), (3, .long (if (0 : Int64) ≤ x then x else -x)), (5, .int ((if (0 : Int64) ≤ x then x else -x).toInt32))]) hl [2, 3, 1, 0] rfl) (by simp only [I_m_pattern_2, if_pos q_2, if_pos q_3]))
    · refine lv_aload_n hx hb dX3_pattern_21 rfl (lv_at hl 1 rfl) ?_
      refine kp_callVR (rm := rm_m_endless) (As := []) (rest := []) (r := some (.int (F_m_endless c))) (st1 := [.int (F_m_endless c)]) B (C_m_endless l D ty sz G Z hG c) kt_m_endless kw_250 kw_251 kw_252 (km_rc B hP) (by decide) ⟨rfl, rfl⟩ (by decide) rfl (Nat.le_of_ble_eq_true rfl) hl.1 hP hS dX3_pattern_22 rfl ?_
      refine lv_istore (lv' := [(5, .int (F_m_endless c)), (3, .long (if (0 : Int64) ≤ x then x else -x)), (0, .ref (bM G)), (1, .long x)]) hx hb dX3_pattern_25 hl (by decide) rfl (fun ls hl => ?_)
      refine lv_goto (tgt := 85) hx hb dX3_pattern_27 (by decide) ?_
      exact hJ85 ls (kp_jl (lv_sub (l' := [(0, .ref (bM G)), (1, .long x), (3, .long (if (0 : Int64) ≤ x then x else -x)), (5, .int (F_m_endless c))]) hl [2, 3, 1, 0] rfl) (by simp only [I_m_pattern_2, if_neg q_2]))
  refine kp_lge (tgt := 11) hx hb dX3_pattern_2 dX3_pattern_3 (by decide) (fun q_4 => ?_) (fun q_4 => ?_)
  · refine lv_lload_n hx hb dX3_pattern_11 rfl (lv_at hl 1 rfl) ?_
    exact kp_jJ (by simp only [if_pos q_4]) hJ12
  · refine lv_lload_n hx hb dX3_pattern_6 rfl (lv_at hl 1 rfl) ?_
    refine lv_lneg hx hb dX3_pattern_7 ?_
    refine lv_goto (tgt := 12) hx hb dX3_pattern_8 (by decide) ?_
    exact kp_jJ (by simp only [if_neg q_4]) hJ12
def A_m_rounded_1 (c : mw_C) (x : Int64) (y : Int64) (z : Int32) : Int64 := if (if (0 : Int64) ≤ x then (0 : Int32) else (1 : Int32)) = (0 : Int32) then x else -x
def I_m_rounded_2 (c : mw_C) (x : Int64) (y : Int64) (z : Int32) : Int32 := if ((A_m_rounded_1 c x y z) - (A_m_rounded_1 c x y z) / y * y) = (0 : Int64) then (0 : Int32) else (1 : Int32)
def I_m_rounded_3 (c : mw_C) (x : Int64) (y : Int64) (z : Int32) : Int32 := if (F_m_length ((A_m_rounded_1 c x y z) / y)) ≤ (c.1.2.2 + (1 : Int32)) then (0 : Int32) else ((F_m_length ((A_m_rounded_1 c x y z) / y)) - c.1.2.2) - (1 : Int32)
def I_m_rounded_4 (c : mw_C) (x : Int64) (y : Int64) (z : Int32) : Int32 := if (I_m_rounded_2 c x y z) = (0 : Int32) then (if ((((A_m_rounded_1 c x y z) / y) >>> ((I_m_rounded_3 c x y z).toInt64 &&& 63)) <<< ((I_m_rounded_3 c x y z).toInt64 &&& 63)) = ((A_m_rounded_1 c x y z) / y) then (0 : Int32) else (1 : Int32)) else (1 : Int32)
def A_m_rounded_5 (c : mw_C) (x : Int64) (y : Int64) (z : Int32) : Int64 := (((A_m_rounded_1 c x y z) / y) >>> ((I_m_rounded_3 c x y z).toInt64 &&& 63)) <<< ((I_m_rounded_3 c x y z).toInt64 &&& 63)
def I_m_rounded_6 (c : mw_C) (x : Int64) (y : Int64) (z : Int32) : Int32 := if z = (if (0 : Int64) ≤ x then (0 : Int32) else (1 : Int32)) then (0 : Int32) else (1 : Int32)
def A_m_rounded_7 (c : mw_C) (x : Int64) (y : Int64) (z : Int32) : Int64 := (A_m_rounded_5 c x y z) + ((1 : Int64) <<< ((I_m_rounded_3 c x y z).toInt64 &&& 63))
def A_m_rounded_8 (c : mw_C) (x : Int64) (y : Int64) (z : Int32) : Int64 := if (I_m_rounded_6 c x y z) = (0 : Int32) then A_m_rounded_5 c x y z else (if (I_m_rounded_4 c x y z) = (0 : Int32) then A_m_rounded_5 c x y z else A_m_rounded_7 c x y z)
def A_m_rounded_9 (c : mw_C) (x : Int64) (y : Int64) (z : Int32) : Int64 := if (I_m_rounded_6 c x y z) = (0 : Int32) then F_m_most c else mw_far
def A_m_rounded_10 (c : mw_C) (x : Int64) (y : Int64) (z : Int32) : Int64 := if (A_m_rounded_8 c x y z) ≤ (F_m_most c) then A_m_rounded_8 c x y z else A_m_rounded_9 c x y z
def F_m_rounded (c : mw_C) (x : Int64) (y : Int64) (z : Int32) : Int64 :=
  if (if (0 : Int64) ≤ x then (0 : Int32) else (1 : Int32)) = (0 : Int32) then A_m_rounded_10 c x y z else -(A_m_rounded_10 c x y z)
def rm_m_rounded : Room := { frames := 1, cells := 0, slots := 0, locals := 22 }
set_option maxHeartbeats 4000000 in
set_option maxRecDepth 100000 in
theorem C_m_rounded (l : Launch) (D : va_G) (ty : List (ClassId × FieldType)) (sz : Nat) (G : mw_G) (Z : va_W) (hG : mw_ok ty sz G Z) (c : mw_C) (x : Int64) (y : Int64) (z : Int32) (hyz : ¬ y = 0) : kp_R l yX3_rounded cX3_rounded 14 (some .long) rm_m_rounded D ty sz [.ref (bM G), .long x, .long y, .int z] (mw_W G c Z) (some (.long (F_m_rounded c x y z))) := by
  refine kp_bodyR (by decide) (Nat.le_of_ble_eq_true rfl) rfl ?_
  intro p e s m args below meth cd ls B hl hP hS
  obtain ⟨hx, hb, hml, hown, hlk, hr, hw, hE, hK, hsz⟩ := id B
  have hl : lv_has ls 14 [(0, .ref (bM G)), (1, .long x), (3, .long y), (5, .int z)] := hl
  refine lv_lload_n hx hb dX3_rounded_0 rfl (lv_at hl 1 rfl) ?_
  refine lv_lconst (v := (0 : Int64)) hx hb dX3_rounded_1 (by decide) ?_
  have hJ11 : W p l e rm_m_rounded s m args below meth cd s.heap [] 0 0 (MQ below (kp_QR (some (.long (F_m_rounded c x y z)))) args s 0 0 (fun _ => False)) (F0 m 11 ls [.int (if (0 : Int64) ≤ x then (0 : Int32) else (1 : Int32))]) := by
    refine lv_istore (lv' := [(6, .int (if (0 : Int64) ≤ x then (0 : Int32) else (1 : Int32))), (0, .ref (bM G)), (1, .long x), (3, .long y), (5, .int z)]) hx hb dX3_rounded_11 hl (by decide) rfl (fun ls hl => ?_)
    refine lv_iload hx hb dX3_rounded_13 (lv_at hl 0 rfl) ?_
    have hJ24 : W p l e rm_m_rounded s m args below meth cd s.heap [] 0 0 (MQ below (kp_QR (some (.long (F_m_rounded c x y z)))) args s 0 0 (fun _ => False)) (F0 m 24 ls [.long (if (if (0 : Int64) ≤ x then (0 : Int32) else (1 : Int32)) = (0 : Int32) then x else -x)]) := by
      refine W.eq (g2 := F0 m 24 ls [.long (A_m_rounded_1 c x y z)]) rfl ?_
      refine lv_lstore (lv' := [(7, .long (A_m_rounded_1 c x y z)), (6, .int (if (0 : Int64) ≤ x then (0 : Int32) else (1 : Int32))), (0, .ref (bM G)), (1, .long x), (3, .long y), (5, .int z)]) hx hb dX3_rounded_24 hl (by decide) rfl (fun ls hl => ?_)
      refine lv_lload hx hb dX3_rounded_26 (lv_at hl 0 rfl) ?_
      refine lv_lload_n hx hb dX3_rounded_28 rfl (lv_at hl 4 rfl) ?_
      refine lv_ldiv hx hb dX3_rounded_29 hyz ?_
      refine lv_lstore (lv' := [(9, .long ((A_m_rounded_1 c x y z) / y)), (7, .long (A_m_rounded_1 c x y z)), (6, .int (if (0 : Int64) ≤ x then (0 : Int32) else (1 : Int32))), (0, .ref (bM G)), (1, .long x), (3, .long y), (5, .int z)]) hx hb dX3_rounded_30 hl (by decide) rfl (fun ls hl => ?_)
      refine lv_lload hx hb dX3_rounded_32 (lv_at hl 1 rfl) ?_
      refine lv_lload_n hx hb dX3_rounded_34 rfl (lv_at hl 5 rfl) ?_
      refine lv_lrem hx hb dX3_rounded_35 hyz ?_
      refine lv_lconst (v := (0 : Int64)) hx hb dX3_rounded_36 (by decide) ?_
      have hJ46 : W p l e rm_m_rounded s m args below meth cd s.heap [] 0 0 (MQ below (kp_QR (some (.long (F_m_rounded c x y z)))) args s 0 0 (fun _ => False)) (F0 m 46 ls [.int (if ((A_m_rounded_1 c x y z) - (A_m_rounded_1 c x y z) / y * y) = (0 : Int64) then (0 : Int32) else (1 : Int32))]) := by
        refine W.eq (g2 := F0 m 46 ls [.int (I_m_rounded_2 c x y z)]) rfl ?_
        refine lv_istore (lv' := [(11, .int (I_m_rounded_2 c x y z)), (9, .long ((A_m_rounded_1 c x y z) / y)), (7, .long (A_m_rounded_1 c x y z)), (6, .int (if (0 : Int64) ≤ x then (0 : Int32) else (1 : Int32))), (0, .ref (bM G)), (1, .long x), (3, .long y), (5, .int z)]) hx hb dX3_rounded_46 hl (by decide) rfl (fun ls hl => ?_)
        refine lv_lload hx hb dX3_rounded_48 (lv_at hl 1 rfl) ?_
        refine kp_callSR (rm := rm_m_length) (As := [.long ((A_m_rounded_1 c x y z) / y)]) (rest := []) (r := some (.int (F_m_length ((A_m_rounded_1 c x y z) / y)))) (st1 := [.int (F_m_length ((A_m_rounded_1 c x y z) / y))]) B (C_m_length l D ty sz G Z hG c ((A_m_rounded_1 c x y z) / y)) kt_m_length kw_256 kw_257 (by decide) ⟨rfl, rfl⟩ (by decide) rfl (Nat.le_of_ble_eq_true rfl) hl.1 hP hS dX3_rounded_50 rfl ?_
        refine lv_aload_n hx hb dX3_rounded_53 rfl (lv_at hl 4 rfl) ?_
        refine km_get (j := 2) (v := .int c.1.2.2) B hP rfl (by decide) kw_246 dX3_rounded_54 ?_
        refine lv_iconst (v := (1 : Int32)) hx hb dX3_rounded_57 (by decide) ?_
        refine lv_iadd hx hb dX3_rounded_58 ?_
        have hJ78 : W p l e rm_m_rounded s m args below meth cd s.heap [] 0 0 (MQ below (kp_QR (some (.long (F_m_rounded c x y z)))) args s 0 0 (fun _ => False)) (F0 m 78 ls [.int (if (F_m_length ((A_m_rounded_1 c x y z) / y)) ≤ (c.1.2.2 + (1 : Int32)) then (0 : Int32) else ((F_m_length ((A_m_rounded_1 c x y z) / y)) - c.1.2.2) - (1 : Int32))]) := by
          refine W.eq (g2 := F0 m 78 ls [.int (I_m_rounded_3 c x y z)]) rfl ?_
          refine lv_istore (lv' := [(12, .int (I_m_rounded_3 c x y z)), (11, .int (I_m_rounded_2 c x y z)), (9, .long ((A_m_rounded_1 c x y z) / y)), (7, .long (A_m_rounded_1 c x y z)), (6, .int (if (0 : Int64) ≤ x then (0 : Int32) else (1 : Int32))), (0, .ref (bM G)), (1, .long x), (3, .long y), (5, .int z)]) hx hb dX3_rounded_78 hl (by decide) rfl (fun ls hl => ?_)
          refine lv_iload hx hb dX3_rounded_80 (lv_at hl 1 rfl) ?_
          have hJ104 : W p l e rm_m_rounded s m args below meth cd s.heap [] 0 0 (MQ below (kp_QR (some (.long (F_m_rounded c x y z)))) args s 0 0 (fun _ => False)) (F0 m 104 ls [.int (if (I_m_rounded_2 c x y z) = (0 : Int32) then (if ((((A_m_rounded_1 c x y z) / y) >>> ((I_m_rounded_3 c x y z).toInt64 &&& 63)) <<< ((I_m_rounded_3 c x y z).toInt64 &&& 63)) = ((A_m_rounded_1 c x y z) / y) then (0 : Int32) else (1 : Int32)) else (1 : Int32))]) := by
            refine W.eq (g2 := F0 m 104 ls [.int (I_m_rounded_4 c x y z)]) rfl ?_
            refine lv_istore (lv' := [(11, .int (I_m_rounded_4 c x y z)), (12, .int (I_m_rounded_3 c x y z)), (9, .long ((A_m_rounded_1 c x y z) / y)), (7, .long (A_m_rounded_1 c x y z)), (6, .int (if (0 : Int64) ≤ x then (0 : Int32) else (1 : Int32))), (0, .ref (bM G)), (1, .long x), (3, .long y), (5, .int z)]) hx hb dX3_rounded_104 hl (by decide) rfl (fun ls hl => ?_)
            refine lv_lload hx hb dX3_rounded_106 (lv_at hl 2 rfl) ?_
            refine lv_iload hx hb dX3_rounded_108 (lv_at hl 1 rfl) ?_
            refine lv_lshr (v := ((A_m_rounded_1 c x y z) / y) >>> ((I_m_rounded_3 c x y z).toInt64 &&& 63)) hx hb dX3_rounded_110 rfl ?_
            refine lv_iload hx hb dX3_rounded_111 (lv_at hl 1 rfl) ?_
            refine lv_lshl (v := (((A_m_rounded_1 c x y z) / y) >>> ((I_m_rounded_3 c x y z).toInt64 &&& 63)) <<< ((I_m_rounded_3 c x y z).toInt64 &&& 63)) hx hb dX3_rounded_113 rfl ?_
            refine W.eq (g2 := F0 m 114 ls [.long (A_m_rounded_5 c x y z)]) rfl ?_
            refine lv_lstore (lv' := [(9, .long (A_m_rounded_5 c x y z)), (11, .int (I_m_rounded_4 c x y z)), (12, .int (I_m_rounded_3 c x y z)), (7, .long (A_m_rounded_1 c x y z)), (6, .int (if (0 : Int64) ≤ x then (0 : Int32) else (1 : Int32))), (0, .ref (bM G)), (1, .long x), (3, .long y), (5, .int z)]) hx hb dX3_rounded_114 hl (by decide) rfl (fun ls hl => ?_)
            refine lv_iload hx hb dX3_rounded_116 (lv_at hl 8 rfl) ?_
            refine lv_iload hx hb dX3_rounded_118 (lv_at hl 4 rfl) ?_
            have hJ128 : W p l e rm_m_rounded s m args below meth cd s.heap [] 0 0 (MQ below (kp_QR (some (.long (F_m_rounded c x y z)))) args s 0 0 (fun _ => False)) (F0 m 128 ls [.int (if z = (if (0 : Int64) ≤ x then (0 : Int32) else (1 : Int32)) then (0 : Int32) else (1 : Int32))]) := by
              refine W.eq (g2 := F0 m 128 ls [.int (I_m_rounded_6 c x y z)]) rfl ?_
              refine lv_istore (lv' := [(13, .int (I_m_rounded_6 c x y z)), (9, .long (A_m_rounded_5 c x y z)), (11, .int (I_m_rounded_4 c x y z)), (12, .int (I_m_rounded_3 c x y z)), (7, .long (A_m_rounded_1 c x y z)), (6, .int (if (0 : Int64) ≤ x then (0 : Int32) else (1 : Int32))), (0, .ref (bM G)), (1, .long x), (3, .long y), (5, .int z)]) hx hb dX3_rounded_128 hl (by decide) rfl (fun ls hl => ?_)
              refine lv_iload hx hb dX3_rounded_130 (lv_at hl 0 rfl) ?_
              have hJ149 : ∀ ls : Array Slot, lv_has ls 14 [(0, .ref (bM G)), (1, .long x), (3, .long y), (5, .int z), (6, .int (if (0 : Int64) ≤ x then (0 : Int32) else (1 : Int32))), (7, .long (A_m_rounded_1 c x y z)), (9, .long (A_m_rounded_8 c x y z)), (11, .int (I_m_rounded_4 c x y z)), (12, .int (I_m_rounded_3 c x y z)), (13, .int (I_m_rounded_6 c x y z))] → W p l e rm_m_rounded s m args below meth cd s.heap [] 0 0 (MQ below (kp_QR (some (.long (F_m_rounded c x y z)))) args s 0 0 (fun _ => False)) (F0 m 149 ls []) := by
                intro ls hl
                refine lv_lload hx hb dX3_rounded_149 (lv_at hl 6 rfl) ?_
                refine lv_aload_n hx hb dX3_rounded_151 rfl (lv_at hl 0 rfl) ?_
                refine kp_callVR (rm := rm_m_most) (As := []) (rest := [.long (A_m_rounded_8 c x y z)]) (r := some (.long (F_m_most c))) (st1 := [.long (F_m_most c), .long (A_m_rounded_8 c x y z)]) B (C_m_most l D ty sz G Z hG c) kt_m_most kw_260 kw_261 kw_262 (km_rc B hP) (by decide) ⟨rfl, rfl⟩ (by decide) rfl (Nat.le_of_ble_eq_true rfl) hl.1 hP hS dX3_rounded_152 rfl ?_
                have hJ176 : ∀ ls : Array Slot, lv_has ls 14 [(0, .ref (bM G)), (1, .long x), (3, .long y), (5, .int z), (6, .int (if (0 : Int64) ≤ x then (0 : Int32) else (1 : Int32))), (7, .long (A_m_rounded_1 c x y z)), (9, .long (A_m_rounded_10 c x y z)), (11, .int (I_m_rounded_4 c x y z)), (12, .int (I_m_rounded_3 c x y z)), (13, .int (I_m_rounded_6 c x y z))] → W p l e rm_m_rounded s m args below meth cd s.heap [] 0 0 (MQ below (kp_QR (some (.long (F_m_rounded c x y z)))) args s 0 0 (fun _ => False)) (F0 m 176 ls []) := by
                  intro ls hl
                  refine lv_iload hx hb dX3_rounded_176 (lv_at hl 4 rfl) ?_
                  refine lv_if_eq (tgt := 187) hx hb dX3_rounded_178 (by decide) (fun q_1 => ?_) (fun q_1 => ?_)
                  · refine lv_lload hx hb dX3_rounded_187 (lv_at hl 6 rfl) ?_
                    exact kp_retlR B (by simp only [F_m_rounded, if_pos q_1]) dX3_rounded_189
                  · refine lv_lload hx hb dX3_rounded_181 (lv_at hl 6 rfl) ?_
                    refine lv_lneg hx hb dX3_rounded_183 ?_
                    refine lv_goto (tgt := 189) hx hb dX3_rounded_184 (by decide) ?_
                    exact kp_retlR B (by simp only [F_m_rounded, if_neg q_1]) dX3_rounded_189
                refine kp_lle (tgt := 176) hx hb dX3_rounded_155 dX3_rounded_156 (by decide) (fun q_2 => ?_) (fun q_2 => ?_)
                · exact hJ176 ls (kp_jl (lv_sub (l' := [(0, .ref (bM G)), (1, .long x), (3, .long y), (5, .int z), (6, .int (if (0 : Int64) ≤ x then (0 : Int32) else (1 : Int32))), (7, .long (A_m_rounded_1 c x y z)), (9, .long (A_m_rounded_8 c x y z)), (11, .int (I_m_rounded_4 c x y z)), (12, .int (I_m_rounded_3 c x y z)), (13, .int (I_m_rounded_6 c x y z))]) hl [0, 1, 2, 3, 4, 5, 6, 7, 8, 9] rfl) (by simp only [A_m_rounded_10, A_m_rounded_9, if_pos q_2]))
                · refine lv_iload hx hb dX3_rounded_159 (lv_at hl 9 rfl) ?_
                  refine lv_if_eq (tgt := 170) hx hb dX3_rounded_161 (by decide) (fun q_3 => ?_) (fun q_3 => ?_)
                  · refine lv_aload_n hx hb dX3_rounded_170 rfl (lv_at hl 0 rfl) ?_
                    refine kp_callVR (rm := rm_m_most) (As := []) (rest := []) (r := some (.long (F_m_most c))) (st1 := [.long (F_m_most c)]) B (C_m_most l D ty sz G Z hG c) kt_m_most kw_260 kw_261 kw_262 (km_rc B hP) (by decide) ⟨rfl, rfl⟩ (by decide) rfl (Nat.le_of_ble_eq_true rfl) hl.1 hP hS dX3_rounded_171 rfl ?_
                    refine lv_lstore (lv' := [(9, .long (F_m_most c)), (0, .ref (bM G)), (1, .long x), (3, .long y), (5, .int z), (6, .int (if (0 : Int64) ≤ x then (0 : Int32) else (1 : Int32))), (7, .long (A_m_rounded_1 c x y z)), (11, .int (I_m_rounded_4 c x y z)), (12, .int (I_m_rounded_3 c x y z)), (13, .int (I_m_rounded_6 c x y z))]) hx hb dX3_rounded_174 hl (by decide) rfl (fun ls hl => ?_)
                    exact hJ176 ls (kp_jl (lv_sub (l' := [(0, .ref (bM G)), (1, .long x), (3, .long y), (5, .int z), (6, .int (if (0 : Int64) ≤ x then (0 : Int32) else (1 : Int32))), (7, .long (A_m_rounded_1 c x y z)), (9, .long (F_m_most c)), (11, .int (I_m_rounded_4 c x y z)), (12, .int (I_m_rounded_3 c x y z)), (13, .int (I_m_rounded_6 c x y z))]) hl [1, 2, 3, 4, 5, 6, 0, 7, 8, 9] rfl) (by simp only [A_m_rounded_10, A_m_rounded_9, if_neg q_2, if_pos q_3]))
                  · refine lv_ldc2 (v := mw_far) hx hb hown (hw _ kw_253 rfl) dX3_rounded_164 ?_
                    refine lv_goto (tgt := 174) hx hb dX3_rounded_167 (by decide) ?_
                    refine lv_lstore (lv' := [(9, .long mw_far), (0, .ref (bM G)), (1, .long x), (3, .long y), (5, .int z), (6, .int (if (0 : Int64) ≤ x then (0 : Int32) else (1 : Int32))), (7, .long (A_m_rounded_1 c x y z)), (11, .int (I_m_rounded_4 c x y z)), (12, .int (I_m_rounded_3 c x y z)), (13, .int (I_m_rounded_6 c x y z))]) hx hb dX3_rounded_174 hl (by decide) rfl (fun ls hl => ?_)
                    exact hJ176 ls (kp_jl (lv_sub (l' := [(0, .ref (bM G)), (1, .long x), (3, .long y), (5, .int z), (6, .int (if (0 : Int64) ≤ x then (0 : Int32) else (1 : Int32))), (7, .long (A_m_rounded_1 c x y z)), (9, .long mw_far), (11, .int (I_m_rounded_4 c x y z)), (12, .int (I_m_rounded_3 c x y z)), (13, .int (I_m_rounded_6 c x y z))]) hl [1, 2, 3, 4, 5, 6, 0, 7, 8, 9] rfl) (by simp only [A_m_rounded_10, A_m_rounded_9, if_neg q_2, if_neg q_3]))
              refine lv_if_eq (tgt := 149) hx hb dX3_rounded_132 (by decide) (fun q_4 => ?_) (fun q_4 => ?_)
              · exact hJ149 ls (kp_jl (lv_sub (l' := [(0, .ref (bM G)), (1, .long x), (3, .long y), (5, .int z), (6, .int (if (0 : Int64) ≤ x then (0 : Int32) else (1 : Int32))), (7, .long (A_m_rounded_1 c x y z)), (9, .long (A_m_rounded_5 c x y z)), (11, .int (I_m_rounded_4 c x y z)), (12, .int (I_m_rounded_3 c x y z)), (13, .int (I_m_rounded_6 c x y z))]) hl [6, 7, 8, 9, 5, 4, 1, 2, 3, 0] rfl) (by simp only [A_m_rounded_8, if_pos q_4]))
              · refine lv_iload hx hb dX3_rounded_135 (lv_at hl 2 rfl) ?_
                refine lv_if_eq (tgt := 149) hx hb dX3_rounded_137 (by decide) (fun q_5 => ?_) (fun q_5 => ?_)
                · exact hJ149 ls (kp_jl (lv_sub (l' := [(0, .ref (bM G)), (1, .long x), (3, .long y), (5, .int z), (6, .int (if (0 : Int64) ≤ x then (0 : Int32) else (1 : Int32))), (7, .long (A_m_rounded_1 c x y z)), (9, .long (A_m_rounded_5 c x y z)), (11, .int (I_m_rounded_4 c x y z)), (12, .int (I_m_rounded_3 c x y z)), (13, .int (I_m_rounded_6 c x y z))]) hl [6, 7, 8, 9, 5, 4, 1, 2, 3, 0] rfl) (by simp only [A_m_rounded_8, if_neg q_4, if_pos q_5]))
                · refine lv_lload hx hb dX3_rounded_140 (lv_at hl 1 rfl) ?_
                  refine lv_lconst (v := (1 : Int64)) hx hb dX3_rounded_142 (by decide) ?_
                  refine lv_iload hx hb dX3_rounded_143 (lv_at hl 3 rfl) ?_
                  refine lv_lshl (v := (1 : Int64) <<< ((I_m_rounded_3 c x y z).toInt64 &&& 63)) hx hb dX3_rounded_145 rfl ?_
                  refine lv_ladd hx hb dX3_rounded_146 ?_
                  refine W.eq (g2 := F0 m 147 ls [.long (A_m_rounded_7 c x y z)]) rfl ?_
                  refine lv_lstore (lv' := [(9, .long (A_m_rounded_7 c x y z)), (13, .int (I_m_rounded_6 c x y z)), (11, .int (I_m_rounded_4 c x y z)), (12, .int (I_m_rounded_3 c x y z)), (7, .long (A_m_rounded_1 c x y z)), (6, .int (if (0 : Int64) ≤ x then (0 : Int32) else (1 : Int32))), (0, .ref (bM G)), (1, .long x), (3, .long y), (5, .int z)]) hx hb dX3_rounded_147 hl (by decide) rfl (fun ls hl => ?_)
                  exact hJ149 ls (kp_jl (lv_sub (l' := [(0, .ref (bM G)), (1, .long x), (3, .long y), (5, .int z), (6, .int (if (0 : Int64) ≤ x then (0 : Int32) else (1 : Int32))), (7, .long (A_m_rounded_1 c x y z)), (9, .long (A_m_rounded_7 c x y z)), (11, .int (I_m_rounded_4 c x y z)), (12, .int (I_m_rounded_3 c x y z)), (13, .int (I_m_rounded_6 c x y z))]) hl [6, 7, 8, 9, 5, 4, 0, 2, 3, 1] rfl) (by simp only [A_m_rounded_8, if_neg q_4, if_neg q_5]))
            refine lv_icmp_eq (tgt := 127) hx hb dX3_rounded_120 (by decide) (fun q_6 => ?_) (fun q_6 => ?_)
            · refine lv_iconst (v := (0 : Int32)) hx hb dX3_rounded_127 (by decide) ?_
              exact kp_jI (by simp only [if_pos q_6]) hJ128
            · refine lv_iconst (v := (1 : Int32)) hx hb dX3_rounded_123 (by decide) ?_
              refine lv_goto (tgt := 128) hx hb dX3_rounded_124 (by decide) ?_
              exact kp_jI (by simp only [if_neg q_6]) hJ128
          refine lv_if_ne (tgt := 99) hx hb dX3_rounded_82 (by decide) (fun q_7 => ?_) (fun q_7 => ?_)
          · refine lv_iconst (v := (1 : Int32)) hx hb dX3_rounded_99 (by decide) ?_
            refine lv_goto (tgt := 104) hx hb dX3_rounded_100 (by decide) ?_
            exact kp_jI (by simp only [if_neg q_7]) hJ104
          · refine lv_lload hx hb dX3_rounded_85 (lv_at hl 2 rfl) ?_
            refine lv_iload hx hb dX3_rounded_87 (lv_at hl 0 rfl) ?_
            refine lv_lshr (v := ((A_m_rounded_1 c x y z) / y) >>> ((I_m_rounded_3 c x y z).toInt64 &&& 63)) hx hb dX3_rounded_89 rfl ?_
            refine lv_iload hx hb dX3_rounded_90 (lv_at hl 0 rfl) ?_
            refine lv_lshl (v := (((A_m_rounded_1 c x y z) / y) >>> ((I_m_rounded_3 c x y z).toInt64 &&& 63)) <<< ((I_m_rounded_3 c x y z).toInt64 &&& 63)) hx hb dX3_rounded_92 rfl ?_
            refine lv_lload hx hb dX3_rounded_93 (lv_at hl 2 rfl) ?_
            refine kp_leq (tgt := 103) hx hb dX3_rounded_95 dX3_rounded_96 (by decide) (fun q_8 => ?_) (fun q_8 => ?_)
            · refine lv_iconst (v := (0 : Int32)) hx hb dX3_rounded_103 (by decide) ?_
              exact kp_jI (by simp only [if_pos q_7, if_pos q_8]) hJ104
            · refine lv_iconst (v := (1 : Int32)) hx hb dX3_rounded_99 (by decide) ?_
              refine lv_goto (tgt := 104) hx hb dX3_rounded_100 (by decide) ?_
              exact kp_jI (by simp only [if_pos q_7, if_neg q_8]) hJ104
        refine lv_icmp_le (tgt := 77) hx hb dX3_rounded_59 (by decide) (fun q_9 => ?_) (fun q_9 => ?_)
        · refine lv_iconst (v := (0 : Int32)) hx hb dX3_rounded_77 (by decide) ?_
          exact kp_jI (by simp only [if_pos q_9]) hJ78
        · refine lv_lload hx hb dX3_rounded_62 (lv_at hl 1 rfl) ?_
          refine kp_callSR (rm := rm_m_length) (As := [.long ((A_m_rounded_1 c x y z) / y)]) (rest := []) (r := some (.int (F_m_length ((A_m_rounded_1 c x y z) / y)))) (st1 := [.int (F_m_length ((A_m_rounded_1 c x y z) / y))]) B (C_m_length l D ty sz G Z hG c ((A_m_rounded_1 c x y z) / y)) kt_m_length kw_256 kw_257 (by decide) ⟨rfl, rfl⟩ (by decide) rfl (Nat.le_of_ble_eq_true rfl) hl.1 hP hS dX3_rounded_64 rfl ?_
          refine lv_aload_n hx hb dX3_rounded_67 rfl (lv_at hl 4 rfl) ?_
          refine km_get (j := 2) (v := .int c.1.2.2) B hP rfl (by decide) kw_246 dX3_rounded_68 ?_
          refine lv_isub hx hb dX3_rounded_71 ?_
          refine lv_iconst (v := (1 : Int32)) hx hb dX3_rounded_72 (by decide) ?_
          refine lv_isub hx hb dX3_rounded_73 ?_
          refine lv_goto (tgt := 78) hx hb dX3_rounded_74 (by decide) ?_
          exact kp_jI (by simp only [if_neg q_9]) hJ78
      refine kp_leq (tgt := 45) hx hb dX3_rounded_37 dX3_rounded_38 (by decide) (fun q_10 => ?_) (fun q_10 => ?_)
      · refine lv_iconst (v := (0 : Int32)) hx hb dX3_rounded_45 (by decide) ?_
        exact kp_jI (by simp only [if_pos q_10]) hJ46
      · refine lv_iconst (v := (1 : Int32)) hx hb dX3_rounded_41 (by decide) ?_
        refine lv_goto (tgt := 46) hx hb dX3_rounded_42 (by decide) ?_
        exact kp_jI (by simp only [if_neg q_10]) hJ46
    refine lv_if_eq (tgt := 23) hx hb dX3_rounded_15 (by decide) (fun q_11 => ?_) (fun q_11 => ?_)
    · refine lv_lload_n hx hb dX3_rounded_23 rfl (lv_at hl 2 rfl) ?_
      exact kp_jJ (by simp only [if_pos q_11]) hJ24
    · refine lv_lload_n hx hb dX3_rounded_18 rfl (lv_at hl 2 rfl) ?_
      refine lv_lneg hx hb dX3_rounded_19 ?_
      refine lv_goto (tgt := 24) hx hb dX3_rounded_20 (by decide) ?_
      exact kp_jJ (by simp only [if_neg q_11]) hJ24
  refine kp_lge (tgt := 10) hx hb dX3_rounded_2 dX3_rounded_3 (by decide) (fun q_12 => ?_) (fun q_12 => ?_)
  · refine lv_iconst (v := (0 : Int32)) hx hb dX3_rounded_10 (by decide) ?_
    exact kp_jI (by simp only [if_pos q_12]) hJ11
  · refine lv_iconst (v := (1 : Int32)) hx hb dX3_rounded_6 (by decide) ?_
    refine lv_goto (tgt := 11) hx hb dX3_rounded_7 (by decide) ?_
    exact kp_jI (by simp only [if_neg q_12]) hJ11
def F_m_isEnd (x : Int64) : Int32 :=
  if x ≤ (-mw_far) then (0 : Int32) else (if mw_far ≤ x then (0 : Int32) else (1 : Int32))
def rm_m_isEnd : Room := { frames := 0, cells := 0, slots := 0, locals := 0 }
set_option maxHeartbeats 4000000 in
set_option maxRecDepth 100000 in
theorem C_m_isEnd (l : Launch) (D : va_G) (ty : List (ClassId × FieldType)) (sz : Nat) (G : mw_G) (Z : va_W) (hG : mw_ok ty sz G Z) (c : mw_C) (x : Int64) : kp_R l yX3_isEnd cX3_isEnd 2 (some .boolean) rm_m_isEnd D ty sz [.long x] (mw_W G c Z) (some (.int (F_m_isEnd x))) := by
  refine kp_bodyR (by decide) (Nat.le_of_ble_eq_true rfl) rfl ?_
  intro p e s m args below meth cd ls B hl hP hS
  obtain ⟨hx, hb, hml, hown, hlk, hr, hw, hE, hK, hsz⟩ := id B
  have hl : lv_has ls 2 [(0, .long x)] := hl
  refine lv_lload_n hx hb dX3_isEnd_0 rfl (lv_at hl 0 rfl) ?_
  refine lv_ldc2 (v := (-mw_far)) hx hb hown (hw _ kw_263 rfl) dX3_isEnd_1 ?_
  refine kp_lle (tgt := 20) hx hb dX3_isEnd_4 dX3_isEnd_5 (by decide) (fun q_1 => ?_) (fun q_1 => ?_)
  · refine lv_iconst (v := (0 : Int32)) hx hb dX3_isEnd_20 (by decide) ?_
    exact kp_retzR B (by simp only [F_m_isEnd, if_pos q_1]) (Or.inl rfl) dX3_isEnd_21
  · refine lv_lload_n hx hb dX3_isEnd_8 rfl (lv_at hl 0 rfl) ?_
    refine lv_ldc2 (v := mw_far) hx hb hown (hw _ kw_253 rfl) dX3_isEnd_9 ?_
    refine kp_lge (tgt := 20) hx hb dX3_isEnd_12 dX3_isEnd_13 (by decide) (fun q_2 => ?_) (fun q_2 => ?_)
    · refine lv_iconst (v := (0 : Int32)) hx hb dX3_isEnd_20 (by decide) ?_
      exact kp_retzR B (by simp only [F_m_isEnd, if_neg q_1, if_pos q_2]) (Or.inl rfl) dX3_isEnd_21
    · refine lv_iconst (v := (1 : Int32)) hx hb dX3_isEnd_16 (by decide) ?_
      refine lv_goto (tgt := 21) hx hb dX3_isEnd_17 (by decide) ?_
      exact kp_retzR B (by simp only [F_m_isEnd, if_neg q_1, if_neg q_2]) (Or.inr rfl) dX3_isEnd_21
def F_m_plus (x : Int64) (y : Int64) (z : Int64) : Int64 :=
  if (F_m_isEnd x) = (0 : Int32) then z else (if (F_m_isEnd y) = (0 : Int32) then z else x + y)
def rm_m_plus : Room := { frames := 1, cells := 0, slots := 0, locals := 21 }
set_option maxHeartbeats 4000000 in
set_option maxRecDepth 100000 in
theorem C_m_plus (l : Launch) (D : va_G) (ty : List (ClassId × FieldType)) (sz : Nat) (G : mw_G) (Z : va_W) (hG : mw_ok ty sz G Z) (c : mw_C) (x : Int64) (y : Int64) (z : Int64) : kp_R l yX3_plus cX3_plus 6 (some .long) rm_m_plus D ty sz [.long x, .long y, .long z] (mw_W G c Z) (some (.long (F_m_plus x y z))) := by
  refine kp_bodyR (by decide) (Nat.le_of_ble_eq_true rfl) rfl ?_
  intro p e s m args below meth cd ls B hl hP hS
  obtain ⟨hx, hb, hml, hown, hlk, hr, hw, hE, hK, hsz⟩ := id B
  have hl : lv_has ls 6 [(0, .long x), (2, .long y), (4, .long z)] := hl
  refine lv_lload_n hx hb dX3_plus_0 rfl (lv_at hl 0 rfl) ?_
  refine kp_callSR (rm := rm_m_isEnd) (As := [.long x]) (rest := []) (r := some (.int (F_m_isEnd x))) (st1 := [.int (F_m_isEnd x)]) B (C_m_isEnd l D ty sz G Z hG c x) kt_m_isEnd kw_266 kw_267 (by decide) ⟨rfl, rfl⟩ (by decide) rfl (Nat.le_of_ble_eq_true rfl) hl.1 hP hS dX3_plus_1 rfl ?_
  refine lv_if_eq (tgt := 20) hx hb dX3_plus_4 (by decide) (fun q_1 => ?_) (fun q_1 => ?_)
  · refine lv_lload hx hb dX3_plus_20 (lv_at hl 2 rfl) ?_
    exact kp_retlR B (by simp only [F_m_plus, if_pos q_1]) dX3_plus_22
  · refine lv_lload_n hx hb dX3_plus_7 rfl (lv_at hl 1 rfl) ?_
    refine kp_callSR (rm := rm_m_isEnd) (As := [.long y]) (rest := []) (r := some (.int (F_m_isEnd y))) (st1 := [.int (F_m_isEnd y)]) B (C_m_isEnd l D ty sz G Z hG c y) kt_m_isEnd kw_266 kw_267 (by decide) ⟨rfl, rfl⟩ (by decide) rfl (Nat.le_of_ble_eq_true rfl) hl.1 hP hS dX3_plus_8 rfl ?_
    refine lv_if_eq (tgt := 20) hx hb dX3_plus_11 (by decide) (fun q_2 => ?_) (fun q_2 => ?_)
    · refine lv_lload hx hb dX3_plus_20 (lv_at hl 2 rfl) ?_
      exact kp_retlR B (by simp only [F_m_plus, if_neg q_1, if_pos q_2]) dX3_plus_22
    · refine lv_lload_n hx hb dX3_plus_14 rfl (lv_at hl 0 rfl) ?_
      refine lv_lload_n hx hb dX3_plus_15 rfl (lv_at hl 1 rfl) ?_
      refine lv_ladd hx hb dX3_plus_16 ?_
      refine lv_goto (tgt := 22) hx hb dX3_plus_17 (by decide) ?_
      exact kp_retlR B (by simp only [F_m_plus, if_neg q_1, if_neg q_2]) dX3_plus_22
def F_m_times (x : Int64) (y : Int64) : Int64 :=
  if x = (0 : Int64) then (0 : Int64) else (if y = (0 : Int64) then (0 : Int64) else (if (F_m_isEnd x) = (0 : Int32) then (if (if (0 : Int64) ≤ x then (0 : Int32) else (1 : Int32)) = (if (0 : Int64) ≤ y then (0 : Int32) else (1 : Int32)) then mw_far else (-mw_far)) else (if (F_m_isEnd y) = (0 : Int32) then (if (if (0 : Int64) ≤ x then (0 : Int32) else (1 : Int32)) = (if (0 : Int64) ≤ y then (0 : Int32) else (1 : Int32)) then mw_far else (-mw_far)) else x * y)))
def rm_m_times : Room := { frames := 1, cells := 0, slots := 0, locals := 21 }
set_option maxHeartbeats 4000000 in
set_option maxRecDepth 100000 in
theorem C_m_times (l : Launch) (D : va_G) (ty : List (ClassId × FieldType)) (sz : Nat) (G : mw_G) (Z : va_W) (hG : mw_ok ty sz G Z) (c : mw_C) (x : Int64) (y : Int64) : kp_R l yX3_times cX3_times 4 (some .long) rm_m_times D ty sz [.long x, .long y] (mw_W G c Z) (some (.long (F_m_times x y))) := by
  refine kp_bodyR (by decide) (Nat.le_of_ble_eq_true rfl) rfl ?_
  intro p e s m args below meth cd ls B hl hP hS
  obtain ⟨hx, hb, hml, hown, hlk, hr, hw, hE, hK, hsz⟩ := id B
  have hl : lv_has ls 4 [(0, .long x), (2, .long y)] := hl
  refine lv_lload_n hx hb dX3_times_0 rfl (lv_at hl 0 rfl) ?_
  refine lv_lconst (v := (0 : Int64)) hx hb dX3_times_1 (by decide) ?_
  refine kp_leq (tgt := 12) hx hb dX3_times_2 dX3_times_3 (by decide) (fun q_1 => ?_) (fun q_1 => ?_)
  · refine lv_lconst (v := (0 : Int64)) hx hb dX3_times_12 (by decide) ?_
    exact kp_retlR B (by simp only [F_m_times, if_pos q_1]) dX3_times_13
  · refine lv_lload_n hx hb dX3_times_6 rfl (lv_at hl 1 rfl) ?_
    refine lv_lconst (v := (0 : Int64)) hx hb dX3_times_7 (by decide) ?_
    refine kp_lne (tgt := 14) hx hb dX3_times_8 dX3_times_9 (by decide) (fun q_2 => ?_) (fun q_2 => ?_)
    · refine lv_lload_n hx hb dX3_times_14 rfl (lv_at hl 0 rfl) ?_
      refine kp_callSR (rm := rm_m_isEnd) (As := [.long x]) (rest := []) (r := some (.int (F_m_isEnd x))) (st1 := [.int (F_m_isEnd x)]) B (C_m_isEnd l D ty sz G Z hG c x) kt_m_isEnd kw_266 kw_267 (by decide) ⟨rfl, rfl⟩ (by decide) rfl (Nat.le_of_ble_eq_true rfl) hl.1 hP hS dX3_times_15 rfl ?_
      refine lv_if_eq (tgt := 34) hx hb dX3_times_18 (by decide) (fun q_3 => ?_) (fun q_3 => ?_)
      · refine lv_lload_n hx hb dX3_times_34 rfl (lv_at hl 0 rfl) ?_
        refine lv_lconst (v := (0 : Int64)) hx hb dX3_times_35 (by decide) ?_
        have hJ45 : W p l e rm_m_times s m args below meth cd s.heap [] 0 0 (MQ below (kp_QR (some (.long (F_m_times x y)))) args s 0 0 (fun _ => False)) (F0 m 45 ls [.int (if (0 : Int64) ≤ x then (0 : Int32) else (1 : Int32))]) := by
          refine lv_lload_n hx hb dX3_times_45 rfl (lv_at hl 1 rfl) ?_
          refine lv_lconst (v := (0 : Int64)) hx hb dX3_times_46 (by decide) ?_
          have hJ56 : W p l e rm_m_times s m args below meth cd s.heap [] 0 0 (MQ below (kp_QR (some (.long (F_m_times x y)))) args s 0 0 (fun _ => False)) (F0 m 56 ls [.int (if (0 : Int64) ≤ y then (0 : Int32) else (1 : Int32)), .int (if (0 : Int64) ≤ x then (0 : Int32) else (1 : Int32))]) := by
            refine lv_icmp_ne (tgt := 65) hx hb dX3_times_56 (by decide) (fun q_4 => ?_) (fun q_4 => ?_)
            · refine lv_ldc2 (v := (-mw_far)) hx hb hown (hw _ kw_263 rfl) dX3_times_65 ?_
              exact kp_retlR B (by simp only [F_m_times, if_neg q_1, if_neg q_2, if_pos q_3, if_neg q_4]) dX3_times_68
            · refine lv_ldc2 (v := mw_far) hx hb hown (hw _ kw_253 rfl) dX3_times_59 ?_
              refine lv_goto (tgt := 68) hx hb dX3_times_62 (by decide) ?_
              exact kp_retlR B (by simp only [F_m_times, if_neg q_1, if_neg q_2, if_pos q_3, if_pos q_4]) dX3_times_68
          refine kp_lge (tgt := 55) hx hb dX3_times_47 dX3_times_48 (by decide) (fun q_5 => ?_) (fun q_5 => ?_)
          · refine lv_iconst (v := (0 : Int32)) hx hb dX3_times_55 (by decide) ?_
            exact kp_jI (by simp only [if_pos q_5]) hJ56
          · refine lv_iconst (v := (1 : Int32)) hx hb dX3_times_51 (by decide) ?_
            refine lv_goto (tgt := 56) hx hb dX3_times_52 (by decide) ?_
            exact kp_jI (by simp only [if_neg q_5]) hJ56
        refine kp_lge (tgt := 44) hx hb dX3_times_36 dX3_times_37 (by decide) (fun q_6 => ?_) (fun q_6 => ?_)
        · refine lv_iconst (v := (0 : Int32)) hx hb dX3_times_44 (by decide) ?_
          exact kp_jI (by simp only [if_pos q_6]) hJ45
        · refine lv_iconst (v := (1 : Int32)) hx hb dX3_times_40 (by decide) ?_
          refine lv_goto (tgt := 45) hx hb dX3_times_41 (by decide) ?_
          exact kp_jI (by simp only [if_neg q_6]) hJ45
      · refine lv_lload_n hx hb dX3_times_21 rfl (lv_at hl 1 rfl) ?_
        refine kp_callSR (rm := rm_m_isEnd) (As := [.long y]) (rest := []) (r := some (.int (F_m_isEnd y))) (st1 := [.int (F_m_isEnd y)]) B (C_m_isEnd l D ty sz G Z hG c y) kt_m_isEnd kw_266 kw_267 (by decide) ⟨rfl, rfl⟩ (by decide) rfl (Nat.le_of_ble_eq_true rfl) hl.1 hP hS dX3_times_22 rfl ?_
        refine lv_if_eq (tgt := 34) hx hb dX3_times_25 (by decide) (fun q_7 => ?_) (fun q_7 => ?_)
        · refine lv_lload_n hx hb dX3_times_34 rfl (lv_at hl 0 rfl) ?_
          refine lv_lconst (v := (0 : Int64)) hx hb dX3_times_35 (by decide) ?_
          have hJ45 : W p l e rm_m_times s m args below meth cd s.heap [] 0 0 (MQ below (kp_QR (some (.long (F_m_times x y)))) args s 0 0 (fun _ => False)) (F0 m 45 ls [.int (if (0 : Int64) ≤ x then (0 : Int32) else (1 : Int32))]) := by
            refine lv_lload_n hx hb dX3_times_45 rfl (lv_at hl 1 rfl) ?_
            refine lv_lconst (v := (0 : Int64)) hx hb dX3_times_46 (by decide) ?_
            have hJ56 : W p l e rm_m_times s m args below meth cd s.heap [] 0 0 (MQ below (kp_QR (some (.long (F_m_times x y)))) args s 0 0 (fun _ => False)) (F0 m 56 ls [.int (if (0 : Int64) ≤ y then (0 : Int32) else (1 : Int32)), .int (if (0 : Int64) ≤ x then (0 : Int32) else (1 : Int32))]) := by
              refine lv_icmp_ne (tgt := 65) hx hb dX3_times_56 (by decide) (fun q_8 => ?_) (fun q_8 => ?_)
              · refine lv_ldc2 (v := (-mw_far)) hx hb hown (hw _ kw_263 rfl) dX3_times_65 ?_
                exact kp_retlR B (by simp only [F_m_times, if_neg q_1, if_neg q_2, if_neg q_3, if_pos q_7, if_neg q_8]) dX3_times_68
              · refine lv_ldc2 (v := mw_far) hx hb hown (hw _ kw_253 rfl) dX3_times_59 ?_
                refine lv_goto (tgt := 68) hx hb dX3_times_62 (by decide) ?_
                exact kp_retlR B (by simp only [F_m_times, if_neg q_1, if_neg q_2, if_neg q_3, if_pos q_7, if_pos q_8]) dX3_times_68
            refine kp_lge (tgt := 55) hx hb dX3_times_47 dX3_times_48 (by decide) (fun q_9 => ?_) (fun q_9 => ?_)
            · refine lv_iconst (v := (0 : Int32)) hx hb dX3_times_55 (by decide) ?_
              exact kp_jI (by simp only [if_pos q_9]) hJ56
            · refine lv_iconst (v := (1 : Int32)) hx hb dX3_times_51 (by decide) ?_
              refine lv_goto (tgt := 56) hx hb dX3_times_52 (by decide) ?_
              exact kp_jI (by simp only [if_neg q_9]) hJ56
          refine kp_lge (tgt := 44) hx hb dX3_times_36 dX3_times_37 (by decide) (fun q_10 => ?_) (fun q_10 => ?_)
          · refine lv_iconst (v := (0 : Int32)) hx hb dX3_times_44 (by decide) ?_
            exact kp_jI (by simp only [if_pos q_10]) hJ45
          · refine lv_iconst (v := (1 : Int32)) hx hb dX3_times_40 (by decide) ?_
            refine lv_goto (tgt := 45) hx hb dX3_times_41 (by decide) ?_
            exact kp_jI (by simp only [if_neg q_10]) hJ45
        · refine lv_lload_n hx hb dX3_times_28 rfl (lv_at hl 0 rfl) ?_
          refine lv_lload_n hx hb dX3_times_29 rfl (lv_at hl 1 rfl) ?_
          refine lv_lmul hx hb dX3_times_30 ?_
          refine lv_goto (tgt := 68) hx hb dX3_times_31 (by decide) ?_
          exact kp_retlR B (by simp only [F_m_times, if_neg q_1, if_neg q_2, if_neg q_3, if_neg q_7]) dX3_times_68
    · refine lv_lconst (v := (0 : Int64)) hx hb dX3_times_12 (by decide) ?_
      exact kp_retlR B (by simp only [F_m_times, if_neg q_1, if_pos q_2]) dX3_times_13
def F_m_less (x : Int64) (y : Int64) : Int64 :=
  if y ≤ x then y else x
def rm_m_less : Room := { frames := 0, cells := 0, slots := 0, locals := 0 }
set_option maxHeartbeats 4000000 in
set_option maxRecDepth 100000 in
theorem C_m_less (l : Launch) (D : va_G) (ty : List (ClassId × FieldType)) (sz : Nat) (G : mw_G) (Z : va_W) (hG : mw_ok ty sz G Z) (c : mw_C) (x : Int64) (y : Int64) : kp_R l yX3_less cX3_less 4 (some .long) rm_m_less D ty sz [.long x, .long y] (mw_W G c Z) (some (.long (F_m_less x y))) := by
  refine kp_bodyR (by decide) (Nat.le_of_ble_eq_true rfl) rfl ?_
  intro p e s m args below meth cd ls B hl hP hS
  obtain ⟨hx, hb, hml, hown, hlk, hr, hw, hE, hK, hsz⟩ := id B
  have hl : lv_has ls 4 [(0, .long x), (2, .long y)] := hl
  refine lv_lload_n hx hb dX3_less_0 rfl (lv_at hl 0 rfl) ?_
  refine lv_lload_n hx hb dX3_less_1 rfl (lv_at hl 1 rfl) ?_
  refine kp_lge (tgt := 10) hx hb dX3_less_2 dX3_less_3 (by decide) (fun q_1 => ?_) (fun q_1 => ?_)
  · refine lv_lload_n hx hb dX3_less_10 rfl (lv_at hl 1 rfl) ?_
    exact kp_retlR B (by simp only [F_m_less, if_pos q_1]) dX3_less_11
  · refine lv_lload_n hx hb dX3_less_6 rfl (lv_at hl 0 rfl) ?_
    refine lv_goto (tgt := 11) hx hb dX3_less_7 (by decide) ?_
    exact kp_retlR B (by simp only [F_m_less, if_neg q_1]) dX3_less_11
def F_m_more (x : Int64) (y : Int64) : Int64 :=
  if x ≤ y then y else x
def rm_m_more : Room := { frames := 0, cells := 0, slots := 0, locals := 0 }
set_option maxHeartbeats 4000000 in
set_option maxRecDepth 100000 in
theorem C_m_more (l : Launch) (D : va_G) (ty : List (ClassId × FieldType)) (sz : Nat) (G : mw_G) (Z : va_W) (hG : mw_ok ty sz G Z) (c : mw_C) (x : Int64) (y : Int64) : kp_R l yX3_more cX3_more 4 (some .long) rm_m_more D ty sz [.long x, .long y] (mw_W G c Z) (some (.long (F_m_more x y))) := by
  refine kp_bodyR (by decide) (Nat.le_of_ble_eq_true rfl) rfl ?_
  intro p e s m args below meth cd ls B hl hP hS
  obtain ⟨hx, hb, hml, hown, hlk, hr, hw, hE, hK, hsz⟩ := id B
  have hl : lv_has ls 4 [(0, .long x), (2, .long y)] := hl
  refine lv_lload_n hx hb dX3_more_0 rfl (lv_at hl 0 rfl) ?_
  refine lv_lload_n hx hb dX3_more_1 rfl (lv_at hl 1 rfl) ?_
  refine kp_lle (tgt := 10) hx hb dX3_more_2 dX3_more_3 (by decide) (fun q_1 => ?_) (fun q_1 => ?_)
  · refine lv_lload_n hx hb dX3_more_10 rfl (lv_at hl 1 rfl) ?_
    exact kp_retlR B (by simp only [F_m_more, if_pos q_1]) dX3_more_11
  · refine lv_lload_n hx hb dX3_more_6 rfl (lv_at hl 0 rfl) ?_
    refine lv_goto (tgt := 11) hx hb dX3_more_7 (by decide) ?_
    exact kp_retlR B (by simp only [F_m_more, if_neg q_1]) dX3_more_11
