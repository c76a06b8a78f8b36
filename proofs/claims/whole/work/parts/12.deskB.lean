def LF_wholeRoot (x : Int64) : Nat → Int64 → Int32 → Int64
  | 0, r, i => 0
  | n + 1, r, i => if i < (0 : Int32) then r else LF_wholeRoot x n (if x < ((r + ((1 : Int64) <<< (i.toInt64 &&& 63))) * (r + ((1 : Int64) <<< (i.toInt64 &&& 63)))) then r else r + ((1 : Int64) <<< (i.toInt64 &&& 63))) (i + (-1 : Int32))
def F_wholeRoot (x : Int64) : Int64 :=
  LF_wholeRoot x 22 (0 : Int64) (20 : Int32)
def rm_wholeRoot : Room := { frames := 0, cells := 0, slots := 0, locals := 0 }
set_option maxHeartbeats 4000000 in
set_option maxRecDepth 100000 in
theorem LP_wholeRoot (l : Launch) (D : va_G) (ty : List (ClassId × FieldType)) (sz : Nat) (G : cw_G) (Z : va_W) (hG : cw_ok ty sz G Z) (c : cw_C) (x : Int64) {p : Program} {e : Env} {s : State} {m : MethodId} {args : Array Value} {below : List Frame} {meth : Method} {cd : Code} (B : kp_B p l s m args meth cd yX2_wholeRoot.cls cX2_wholeRoot 7 (some .long) D ty sz) (hP : va_P D vwCl (cw_W G c Z) s.heap) :
    ∀ (n : Nat) (r : Int64) (i : Int32) (h1 : -1 ≤ i.toInt) (h2 : i.toInt + 2 ≤ n), ∀ (ls : Array Slot), lv_has ls 7 [(0, .long x), (2, .long r), (4, .int i)] → W p l e rm_wholeRoot s m args below meth cd s.heap [] 0 0 (MQ below (kp_QR (some (.long (LF_wholeRoot x n r i)))) args s 0 0 (fun _ => False)) (F0 m 6 ls []) := by
  obtain ⟨hx, hb, hml, hown, hlk, hr, hw, hE, hK, hsz⟩ := id B
  intro n
  induction n with
  | zero =>
    intro r i h1 h2
    exact absurd h2 (by omega)
  | succ n ih =>
    intro r i h1 h2 ls hl
    have hS : va_S (kp_A sz) s.heap s.heap [] := va_S.rf
    refine lv_iload hx hb dX2_wholeRoot_6 (lv_at hl 2 rfl) ?_
    refine lv_if_lt (tgt := 38) hx hb dX2_wholeRoot_8 (by decide) (fun q_1 => ?_) (fun q_1 => ?_)
    · refine lv_lload_n hx hb dX2_wholeRoot_38 rfl (lv_at hl 1 rfl) ?_
      exact kp_retlR B (by simp only [LF_wholeRoot, if_pos q_1]) dX2_wholeRoot_39
    · refine lv_lload_n hx hb dX2_wholeRoot_11 rfl (lv_at hl 1 rfl) ?_
      refine lv_lconst (v := (1 : Int64)) hx hb dX2_wholeRoot_12 (by decide) ?_
      refine lv_iload hx hb dX2_wholeRoot_13 (lv_at hl 2 rfl) ?_
      refine lv_lshl (v := (1 : Int64) <<< (i.toInt64 &&& 63)) hx hb dX2_wholeRoot_15 rfl ?_
      refine lv_ladd hx hb dX2_wholeRoot_16 ?_
      refine lv_lstore (lv' := [(5, .long (r + ((1 : Int64) <<< (i.toInt64 &&& 63)))), (0, .long x), (2, .long r), (4, .int i)]) hx hb dX2_wholeRoot_17 hl (by decide) rfl (fun ls hl => ?_)
      refine lv_lload hx hb dX2_wholeRoot_19 (lv_at hl 0 rfl) ?_
      refine lv_lload hx hb dX2_wholeRoot_21 (lv_at hl 0 rfl) ?_
      refine lv_lmul hx hb dX2_wholeRoot_23 ?_
      refine lv_lload_n hx hb dX2_wholeRoot_24 rfl (lv_at hl 1 rfl) ?_
      have hJ32 : ∀ ls : Array Slot, lv_has ls 7 [(0, .long x), (2, .long (if x < ((r + ((1 : Int64) <<< (i.toInt64 &&& 63))) * (r + ((1 : Int64) <<< (i.toInt64 &&& 63)))) then r else r + ((1 : Int64) <<< (i.toInt64 &&& 63)))), (4, .int i), (5, .long (r + ((1 : Int64) <<< (i.toInt64 &&& 63))))] → W p l e rm_wholeRoot s m args below meth cd s.heap [] 0 0 (MQ below (kp_QR (some (.long (LF_wholeRoot x (n + 1) r i)))) args s 0 0 (fun _ => False)) (F0 m 32 ls []) := by
        intro ls hl
        refine lv_iinc (v := i + (-1 : Int32)) (lv' := [(4, .int (i + (-1 : Int32))), (0, .long x), (2, .long (if x < ((r + ((1 : Int64) <<< (i.toInt64 &&& 63))) * (r + ((1 : Int64) <<< (i.toInt64 &&& 63)))) then r else r + ((1 : Int64) <<< (i.toInt64 &&& 63)))), (5, .long (r + ((1 : Int64) <<< (i.toInt64 &&& 63))))]) hx hb dX2_wholeRoot_32 hl (k := 2) rfl rfl (by decide) rfl (fun ls hl => ?_)
        refine lv_goto (tgt := 6) hx hb dX2_wholeRoot_35 (by decide) ?_
        rw [show LF_wholeRoot x (n + 1) r i = LF_wholeRoot x n (if x < ((r + ((1 : Int64) <<< (i.toInt64 &&& 63))) * (r + ((1 : Int64) <<< (i.toInt64 &&& 63)))) then r else r + ((1 : Int64) <<< (i.toInt64 &&& 63))) (i + (-1 : Int32)) from by simp only [LF_wholeRoot, if_neg q_1]]
        exact ih (if x < ((r + ((1 : Int64) <<< (i.toInt64 &&& 63))) * (r + ((1 : Int64) <<< (i.toInt64 &&& 63)))) then r else r + ((1 : Int64) <<< (i.toInt64 &&& 63))) (i + (-1 : Int32)) (ki_dn h1 q_1 h2).1 (ki_dn h1 q_1 h2).2 ls (lv_sub hl [1, 2, 0] rfl)
      refine kp_lgt (tgt := 32) hx hb dX2_wholeRoot_25 dX2_wholeRoot_26 (by decide) (fun q_2 => ?_) (fun q_2 => ?_)
      · exact hJ32 ls (kp_jl (lv_sub (l' := [(0, .long x), (2, .long r), (4, .int i), (5, .long (r + ((1 : Int64) <<< (i.toInt64 &&& 63))))]) hl [1, 2, 3, 0] rfl) (by simp only [if_pos q_2]))
      · refine lv_lload hx hb dX2_wholeRoot_29 (lv_at hl 0 rfl) ?_
        refine lv_lstore_n (lv' := [(2, .long (r + ((1 : Int64) <<< (i.toInt64 &&& 63)))), (5, .long (r + ((1 : Int64) <<< (i.toInt64 &&& 63)))), (0, .long x), (4, .int i)]) hx hb dX2_wholeRoot_31 rfl hl (by decide) rfl (fun ls hl => ?_)
        exact hJ32 ls (kp_jl (lv_sub (l' := [(0, .long x), (2, .long (r + ((1 : Int64) <<< (i.toInt64 &&& 63)))), (4, .int i), (5, .long (r + ((1 : Int64) <<< (i.toInt64 &&& 63))))]) hl [2, 0, 3, 1] rfl) (by simp only [if_neg q_2]))
set_option maxHeartbeats 4000000 in
set_option maxRecDepth 100000 in
theorem C_wholeRoot (l : Launch) (D : va_G) (ty : List (ClassId × FieldType)) (sz : Nat) (G : cw_G) (Z : va_W) (hG : cw_ok ty sz G Z) (c : cw_C) (x : Int64) : kp_R l yX2_wholeRoot cX2_wholeRoot 7 (some .long) rm_wholeRoot D ty sz [.long x] (cw_W G c Z) (some (.long (F_wholeRoot x))) := by
  refine kp_bodyR (by decide) (Nat.le_of_ble_eq_true rfl) rfl ?_
  intro p e s m args below meth cd ls B hl hP hS
  obtain ⟨hx, hb, hml, hown, hlk, hr, hw, hE, hK, hsz⟩ := id B
  have hl : lv_has ls 7 [(0, .long x)] := hl
  refine lv_lconst (v := (0 : Int64)) hx hb dX2_wholeRoot_0 (by decide) ?_
  refine lv_lstore_n (lv' := [(2, .long (0 : Int64)), (0, .long x)]) hx hb dX2_wholeRoot_1 rfl hl (by decide) rfl (fun ls hl => ?_)
  refine lv_bipush (v := (20 : Int32)) hx hb dX2_wholeRoot_2 (by decide) ?_
  refine lv_istore (lv' := [(4, .int (20 : Int32)), (2, .long (0 : Int64)), (0, .long x)]) hx hb dX2_wholeRoot_4 hl (by decide) rfl (fun ls hl => ?_)
  exact LP_wholeRoot l D ty sz G Z hG c x B hP 22 (0 : Int64) (20 : Int32) (by decide) (by decide) ls (lv_sub hl [2, 1, 0] rfl)
def F_rootNotAbove (c : cw_C) (x : Int64) : Int64 :=
  F_wholeRoot (x <<< ((F_unitBits c).toInt64 &&& 63))
def rm_rootNotAbove : Room := { frames := 1, cells := 0, slots := 0, locals := 26 }
set_option maxHeartbeats 4000000 in
set_option maxRecDepth 100000 in
theorem C_rootNotAbove (l : Launch) (D : va_G) (ty : List (ClassId × FieldType)) (sz : Nat) (G : cw_G) (Z : va_W) (hG : cw_ok ty sz G Z) (c : cw_C) (x : Int64) : kp_R l yX2_rootNotAbove cX2_rootNotAbove 3 (some .long) rm_rootNotAbove D ty sz [.ref (aD G), .long x] (cw_W G c Z) (some (.long (F_rootNotAbove c x))) := by
  refine kp_bodyR (by decide) (Nat.le_of_ble_eq_true rfl) rfl ?_
  intro p e s m args below meth cd ls B hl hP hS
  obtain ⟨hx, hb, hml, hown, hlk, hr, hw, hE, hK, hsz⟩ := id B
  have hl : lv_has ls 3 [(0, .ref (aD G)), (1, .long x)] := hl
  refine lv_lload_n hx hb dX2_rootNotAbove_0 rfl (lv_at hl 1 rfl) ?_
  refine lv_aload_n hx hb dX2_rootNotAbove_1 rfl (lv_at hl 0 rfl) ?_
  refine kc_getD (j := 0) (v := .ref (aS G)) B hP rfl (by decide) kw_76 dX2_rootNotAbove_2 ?_
  refine kp_callNR (rm := rm_unitBits) (As := []) (rest := [.long x]) (r := some (.int (F_unitBits c))) (st1 := [.int (F_unitBits c), .long x]) B (C_unitBits l D ty sz G Z hG c) kt_unitBits kw_79 kw_80 kw_81 (kc_rcS B hP) (by decide) ⟨rfl, rfl⟩ (by decide) rfl (Nat.le_of_ble_eq_true rfl) hl.1 hP hS dX2_rootNotAbove_5 rfl ?_
  refine lv_lshl (v := x <<< ((F_unitBits c).toInt64 &&& 63)) hx hb dX2_rootNotAbove_8 rfl ?_
  refine kp_callSR (rm := rm_wholeRoot) (As := [.long (x <<< ((F_unitBits c).toInt64 &&& 63))]) (rest := []) (r := some (.long (F_wholeRoot (x <<< ((F_unitBits c).toInt64 &&& 63))))) (st1 := [.long (F_wholeRoot (x <<< ((F_unitBits c).toInt64 &&& 63)))]) B (C_wholeRoot l D ty sz G Z hG c (x <<< ((F_unitBits c).toInt64 &&& 63))) kt_wholeRoot kw_118 kw_119 (by decide) ⟨rfl, rfl⟩ (by decide) rfl (Nat.le_of_ble_eq_true rfl) hl.1 hP hS dX2_rootNotAbove_9 rfl ?_
  exact kp_retlR B rfl dX2_rootNotAbove_12
def F_rootNotBelow (c : cw_C) (x : Int64) : Int64 :=
  if x = cw_inf then cw_inf else (if (x <<< ((F_unitBits c).toInt64 &&& 63)) ≤ ((F_wholeRoot (x <<< ((F_unitBits c).toInt64 &&& 63))) * (F_wholeRoot (x <<< ((F_unitBits c).toInt64 &&& 63)))) then F_wholeRoot (x <<< ((F_unitBits c).toInt64 &&& 63)) else (F_wholeRoot (x <<< ((F_unitBits c).toInt64 &&& 63))) + (1 : Int64))
def rm_rootNotBelow : Room := { frames := 1, cells := 0, slots := 0, locals := 26 }
set_option maxHeartbeats 4000000 in
set_option maxRecDepth 100000 in
theorem C_rootNotBelow (l : Launch) (D : va_G) (ty : List (ClassId × FieldType)) (sz : Nat) (G : cw_G) (Z : va_W) (hG : cw_ok ty sz G Z) (c : cw_C) (x : Int64) : kp_R l yX2_rootNotBelow cX2_rootNotBelow 7 (some .long) rm_rootNotBelow D ty sz [.ref (aD G), .long x] (cw_W G c Z) (some (.long (F_rootNotBelow c x))) := by
  refine kp_bodyR (by decide) (Nat.le_of_ble_eq_true rfl) rfl ?_
  intro p e s m args below meth cd ls B hl hP hS
  obtain ⟨hx, hb, hml, hown, hlk, hr, hw, hE, hK, hsz⟩ := id B
  have hl : lv_has ls 7 [(0, .ref (aD G)), (1, .long x)] := hl
  refine lv_lload_n hx hb dX2_rootNotBelow_0 rfl (lv_at hl 1 rfl) ?_
  refine lv_ldc2 (v := cw_inf) hx hb hown (hw _ kw_64 rfl) dX2_rootNotBelow_1 ?_
  refine kp_lne (tgt := 12) hx hb dX2_rootNotBelow_4 dX2_rootNotBelow_5 (by decide) (fun q_1 => ?_) (fun q_1 => ?_)
  · refine lv_lload_n hx hb dX2_rootNotBelow_12 rfl (lv_at hl 1 rfl) ?_
    refine lv_aload_n hx hb dX2_rootNotBelow_13 rfl (lv_at hl 0 rfl) ?_
    refine kc_getD (j := 0) (v := .ref (aS G)) B hP rfl (by decide) kw_76 dX2_rootNotBelow_14 ?_
    refine kp_callNR (rm := rm_unitBits) (As := []) (rest := [.long x]) (r := some (.int (F_unitBits c))) (st1 := [.int (F_unitBits c), .long x]) B (C_unitBits l D ty sz G Z hG c) kt_unitBits kw_79 kw_80 kw_81 (kc_rcS B hP) (by decide) ⟨rfl, rfl⟩ (by decide) rfl (Nat.le_of_ble_eq_true rfl) hl.1 hP hS dX2_rootNotBelow_17 rfl ?_
    refine lv_lshl (v := x <<< ((F_unitBits c).toInt64 &&& 63)) hx hb dX2_rootNotBelow_20 rfl ?_
    refine lv_lstore_n (lv' := [(3, .long (x <<< ((F_unitBits c).toInt64 &&& 63))), (0, .ref (aD G)), (1, .long x)]) hx hb dX2_rootNotBelow_21 rfl hl (by decide) rfl (fun ls hl => ?_)
    refine lv_lload_n hx hb dX2_rootNotBelow_22 rfl (lv_at hl 0 rfl) ?_
    refine kp_callSR (rm := rm_wholeRoot) (As := [.long (x <<< ((F_unitBits c).toInt64 &&& 63))]) (rest := []) (r := some (.long (F_wholeRoot (x <<< ((F_unitBits c).toInt64 &&& 63))))) (st1 := [.long (F_wholeRoot (x <<< ((F_unitBits c).toInt64 &&& 63)))]) B (C_wholeRoot l D ty sz G Z hG c (x <<< ((F_unitBits c).toInt64 &&& 63))) kt_wholeRoot kw_118 kw_119 (by decide) ⟨rfl, rfl⟩ (by decide) rfl (Nat.le_of_ble_eq_true rfl) hl.1 hP hS dX2_rootNotBelow_23 rfl ?_
    refine lv_lstore (lv' := [(5, .long (F_wholeRoot (x <<< ((F_unitBits c).toInt64 &&& 63)))), (3, .long (x <<< ((F_unitBits c).toInt64 &&& 63))), (0, .ref (aD G)), (1, .long x)]) hx hb dX2_rootNotBelow_26 hl (by decide) rfl (fun ls hl => ?_)
    refine lv_lload hx hb dX2_rootNotBelow_28 (lv_at hl 0 rfl) ?_
    refine lv_lload hx hb dX2_rootNotBelow_30 (lv_at hl 0 rfl) ?_
    refine lv_lmul hx hb dX2_rootNotBelow_32 ?_
    refine lv_lload_n hx hb dX2_rootNotBelow_33 rfl (lv_at hl 1 rfl) ?_
    refine kp_lge (tgt := 45) hx hb dX2_rootNotBelow_34 dX2_rootNotBelow_35 (by decide) (fun q_2 => ?_) (fun q_2 => ?_)
    · refine lv_lload hx hb dX2_rootNotBelow_45 (lv_at hl 0 rfl) ?_
      exact kp_retlR B (by simp only [F_rootNotBelow, if_neg q_1, if_pos q_2]) dX2_rootNotBelow_47
    · refine lv_lload hx hb dX2_rootNotBelow_38 (lv_at hl 0 rfl) ?_
      refine lv_lconst (v := (1 : Int64)) hx hb dX2_rootNotBelow_40 (by decide) ?_
      refine lv_ladd hx hb dX2_rootNotBelow_41 ?_
      refine lv_goto (tgt := 47) hx hb dX2_rootNotBelow_42 (by decide) ?_
      exact kp_retlR B (by simp only [F_rootNotBelow, if_neg q_1, if_neg q_2]) dX2_rootNotBelow_47
  · refine lv_ldc2 (v := cw_inf) hx hb hown (hw _ kw_64 rfl) dX2_rootNotBelow_8 ?_
    exact kp_retlR B (by simp only [F_rootNotBelow, if_pos q_1]) dX2_rootNotBelow_11
def S_takeRoot (c : cw_C) (u : Nat) : cw_C :=
  if (0 : Int64) ≤ ((c.2.2 u).2) then S_become c 8 (F_rootNotAbove c (z_max ((c.2.2 u).1) (0 : Int64))) (F_rootNotBelow c ((c.2.2 u).2)) else S_becomeEmpty c 8
def rm_takeRoot : Room := { frames := 2, cells := 0, slots := 0, locals := 52 }
set_option maxHeartbeats 4000000 in
set_option maxRecDepth 100000 in
theorem C_takeRoot (l : Launch) (D : va_G) (ty : List (ClassId × FieldType)) (sz : Nat) (G : cw_G) (Z : va_W) (hG : cw_ok ty sz G Z) (c : cw_C) (u : Nat) (hu : u < 10) : kp_M l yX2_takeRoot cX2_takeRoot 2 none rm_takeRoot D ty sz [.ref (aD G), .ref (aN G u)] (cw_W G c Z) (none) (cw_W G (S_takeRoot c u) Z) := by
  refine kp_body (by decide) (Nat.le_of_ble_eq_true rfl) rfl ?_
  intro p e s m args below meth cd ls B hin hl hP hS
  obtain ⟨hx, hb, hml, hown, hlk, hr, hw, hE, hK, hsz⟩ := id B
  have hl : lv_has ls 2 [(0, .ref (aD G)), (1, .ref (aN G u))] := hl
  refine lv_aload_n hx hb dX2_takeRoot_0 rfl (lv_at hl 1 rfl) ?_
  refine kc_getNX (j := 1) (k := u) (v := .long ((c.2.2 u).2)) B hP hu rfl (by decide) kw_88 dX2_takeRoot_1 ?_
  refine lv_lconst (v := (0 : Int64)) hx hb dX2_takeRoot_4 (by decide) ?_
  refine kp_lge (tgt := 17) hx hb dX2_takeRoot_5 dX2_takeRoot_6 (by decide) (fun q_1 => ?_) (fun q_1 => ?_)
  · refine lv_aload_n hx hb dX2_takeRoot_17 rfl (lv_at hl 0 rfl) ?_
    refine kc_getD (j := 2) (v := .ref (aN G 8)) B hP rfl (by decide) kw_101 dX2_takeRoot_18 ?_
    refine lv_aload_n hx hb dX2_takeRoot_21 rfl (lv_at hl 0 rfl) ?_
    refine lv_aload_n hx hb dX2_takeRoot_22 rfl (lv_at hl 1 rfl) ?_
    refine kc_getNX (j := 0) (k := u) (v := .long ((c.2.2 u).1)) B hP hu rfl (by decide) kw_87 dX2_takeRoot_23 ?_
    refine lv_lconst (v := (0 : Int64)) hx hb dX2_takeRoot_26 (by decide) ?_
    refine kp_max (x := (c.2.2 u).1) (y := (0 : Int64)) B hl.1 kw_98 kw_99 kw_91 kw_100 (by decide) (Nat.le_of_ble_eq_true rfl) (Nat.zero_le _) (Nat.zero_le _) dX2_takeRoot_27 ?_
    refine kp_callVR (rm := rm_rootNotAbove) (As := [.long (z_max ((c.2.2 u).1) (0 : Int64))]) (rest := [.ref (aN G 8)]) (r := some (.long (F_rootNotAbove c (z_max ((c.2.2 u).1) (0 : Int64))))) (st1 := [.long (F_rootNotAbove c (z_max ((c.2.2 u).1) (0 : Int64))), .ref (aN G 8)]) B (C_rootNotAbove l D ty sz G Z hG c (z_max ((c.2.2 u).1) (0 : Int64))) kt_rootNotAbove kw_122 kw_123 kw_124 (kc_rcD B hP) (by decide) ⟨rfl, rfl⟩ (by decide) rfl (Nat.le_of_ble_eq_true rfl) hl.1 hP hS dX2_takeRoot_30 rfl ?_
    refine lv_aload_n hx hb dX2_takeRoot_33 rfl (lv_at hl 0 rfl) ?_
    refine lv_aload_n hx hb dX2_takeRoot_34 rfl (lv_at hl 1 rfl) ?_
    refine kc_getNX (j := 1) (k := u) (v := .long ((c.2.2 u).2)) B hP hu rfl (by decide) kw_88 dX2_takeRoot_35 ?_
    refine kp_callVR (rm := rm_rootNotBelow) (As := [.long ((c.2.2 u).2)]) (rest := [.long (F_rootNotAbove c (z_max ((c.2.2 u).1) (0 : Int64))), .ref (aN G 8)]) (r := some (.long (F_rootNotBelow c ((c.2.2 u).2)))) (st1 := [.long (F_rootNotBelow c ((c.2.2 u).2)), .long (F_rootNotAbove c (z_max ((c.2.2 u).1) (0 : Int64))), .ref (aN G 8)]) B (C_rootNotBelow l D ty sz G Z hG c ((c.2.2 u).2)) kt_rootNotBelow kw_127 kw_128 kw_129 (kc_rcD B hP) (by decide) ⟨rfl, rfl⟩ (by decide) rfl (Nat.le_of_ble_eq_true rfl) hl.1 hP hS dX2_takeRoot_38 rfl ?_
    refine kp_callN (rm := rm_become) (As := [.long (F_rootNotAbove c (z_max ((c.2.2 u).1) (0 : Int64))), .long (F_rootNotBelow c ((c.2.2 u).2))]) (rest := []) (r := none) (st1 := []) (ws' := cw_W G (S_become c 8 (F_rootNotAbove c (z_max ((c.2.2 u).1) (0 : Int64))) (F_rootNotBelow c ((c.2.2 u).2))) Z) B (C_become l D ty sz G Z hG c 8 (by decide) (F_rootNotAbove c (z_max ((c.2.2 u).1) (0 : Int64))) (F_rootNotBelow c ((c.2.2 u).2))) kt_become kw_104 kw_105 kw_106 (kc_rcN B hP (by decide)) (by decide) rfl rfl (by decide) rfl (Nat.le_of_ble_eq_true rfl) hl.1 hP hS dX2_takeRoot_41 rfl (fun H locs hP hS => ?_)
    exact kp_retv B (by simp only [S_takeRoot, if_pos q_1]; exact hP) hS rfl dX2_takeRoot_44
  · refine lv_aload_n hx hb dX2_takeRoot_9 rfl (lv_at hl 0 rfl) ?_
    refine kc_getD (j := 2) (v := .ref (aN G 8)) B hP rfl (by decide) kw_101 dX2_takeRoot_10 ?_
    refine kp_callN (rm := rm_becomeEmpty) (As := []) (rest := []) (r := none) (st1 := []) (ws' := cw_W G (S_becomeEmpty c 8) Z) B (C_becomeEmpty l D ty sz G Z hG c 8 (by decide)) kt_becomeEmpty kw_109 kw_110 kw_111 (kc_rcN B hP (by decide)) (by decide) rfl rfl (by decide) rfl (Nat.le_of_ble_eq_true rfl) hl.1 hP hS dX2_takeRoot_13 rfl (fun H locs hP hS => ?_)
    exact kp_retv B (by simp only [S_takeRoot, if_neg q_1]; exact hP) hS rfl dX2_takeRoot_16
def F_floorDiv (x : Int64) (y : Int64) : Int64 :=
  if (0 : Int64) ≤ (x ^^^ y) then x / y else (if ((x / y) * y) = x then x / y else (x / y) - (1 : Int64))
def rm_floorDiv : Room := { frames := 0, cells := 0, slots := 0, locals := 0 }
set_option maxHeartbeats 4000000 in
set_option maxRecDepth 100000 in
theorem C_floorDiv (l : Launch) (D : va_G) (ty : List (ClassId × FieldType)) (sz : Nat) (G : cw_G) (Z : va_W) (hG : cw_ok ty sz G Z) (c : cw_C) (x : Int64) (y : Int64) (hy : ¬ y = 0) : kp_R l yJM_floorDiv cJM_floorDiv 6 (some .long) rm_floorDiv D ty sz [.long x, .long y] (cw_W G c Z) (some (.long (F_floorDiv x y))) := by
  refine kp_bodyRF (by decide +kernel) (Nat.le_of_ble_eq_true rfl) rfl ?_
  intro p e s m args below meth cd ls B hl hP hS
  obtain ⟨hx, hb, hml, hown, hlk, hr, hw, hE, hK, hsz⟩ := id B
  have hl : lv_has ls 6 [(0, .long x), (2, .long y)] := hl
  refine lv_lload_n hx hb dJM_floorDiv_0 rfl (lv_at hl 0 rfl) ?_
  refine lv_lload_n hx hb dJM_floorDiv_1 rfl (lv_at hl 1 rfl) ?_
  refine lv_ldiv hx hb dJM_floorDiv_2 hy ?_
  refine lv_lstore (lv' := [(4, .long (x / y)), (0, .long x), (2, .long y)]) hx hb dJM_floorDiv_3 hl (by decide) rfl (fun ls hl => ?_)
  refine lv_lload_n hx hb dJM_floorDiv_5 rfl (lv_at hl 1 rfl) ?_
  refine lv_lload_n hx hb dJM_floorDiv_6 rfl (lv_at hl 2 rfl) ?_
  refine lv_lxor hx hb dJM_floorDiv_7 ?_
  refine lv_lconst (v := (0 : Int64)) hx hb dJM_floorDiv_8 (by decide) ?_
  refine kp_lge (tgt := 27) hx hb dJM_floorDiv_9 dJM_floorDiv_10 (by decide) (fun q_1 => ?_) (fun q_1 => ?_)
  · refine lv_lload hx hb dJM_floorDiv_27 (lv_at hl 0 rfl) ?_
    exact kp_retlR B (by simp only [F_floorDiv, if_pos q_1]) dJM_floorDiv_29
  · refine lv_lload hx hb dJM_floorDiv_13 (lv_at hl 0 rfl) ?_
    refine lv_lload_n hx hb dJM_floorDiv_15 rfl (lv_at hl 2 rfl) ?_
    refine lv_lmul hx hb dJM_floorDiv_16 ?_
    refine lv_lload_n hx hb dJM_floorDiv_17 rfl (lv_at hl 1 rfl) ?_
    refine kp_leq (tgt := 27) hx hb dJM_floorDiv_18 dJM_floorDiv_19 (by decide) (fun q_2 => ?_) (fun q_2 => ?_)
    · refine lv_lload hx hb dJM_floorDiv_27 (lv_at hl 0 rfl) ?_
      exact kp_retlR B (by simp only [F_floorDiv, if_neg q_1, if_pos q_2]) dJM_floorDiv_29
    · refine lv_lload hx hb dJM_floorDiv_22 (lv_at hl 0 rfl) ?_
      refine lv_lconst (v := (1 : Int64)) hx hb dJM_floorDiv_24 (by decide) ?_
      refine lv_lsub hx hb dJM_floorDiv_25 ?_
      exact kp_retlR B (by simp only [F_floorDiv, if_neg q_1, if_neg q_2]) dJM_floorDiv_26
def F_leastQuotient (c : cw_C) (x : Int64) (y : Int64) (z : Int64) : Int64 :=
  if x < (0 : Int64) then (if y ≤ (0 : Int64) then (-cw_inf) else (if x = (-cw_inf) then (-cw_inf) else F_floorDiv (x <<< ((F_unitBits c).toInt64 &&& 63)) y)) else (if z ≤ (0 : Int64) then (0 : Int64) else (if z = cw_inf then (0 : Int64) else F_floorDiv (x <<< ((F_unitBits c).toInt64 &&& 63)) z))
def rm_leastQuotient : Room := { frames := 1, cells := 0, slots := 0, locals := 40 }
set_option maxHeartbeats 4000000 in
set_option maxRecDepth 100000 in
theorem C_leastQuotient (l : Launch) (D : va_G) (ty : List (ClassId × FieldType)) (sz : Nat) (G : cw_G) (Z : va_W) (hG : cw_ok ty sz G Z) (c : cw_C) (x : Int64) (y : Int64) (z : Int64) : kp_R l yX2_leastQuotient cX2_leastQuotient 7 (some .long) rm_leastQuotient D ty sz [.ref (aD G), .long x, .long y, .long z] (cw_W G c Z) (some (.long (F_leastQuotient c x y z))) := by
  refine kp_bodyR (by decide) (Nat.le_of_ble_eq_true rfl) rfl ?_
  intro p e s m args below meth cd ls B hl hP hS
  obtain ⟨hx, hb, hml, hown, hlk, hr, hw, hE, hK, hsz⟩ := id B
  have hl : lv_has ls 7 [(0, .ref (aD G)), (1, .long x), (3, .long y), (5, .long z)] := hl
  refine lv_lload_n hx hb dX2_leastQuotient_0 rfl (lv_at hl 1 rfl) ?_
  refine lv_lconst (v := (0 : Int64)) hx hb dX2_leastQuotient_1 (by decide) ?_
  refine kp_llt (tgt := 41) hx hb dX2_leastQuotient_2 dX2_leastQuotient_3 (by decide) (fun q_1 => ?_) (fun q_1 => ?_)
  · refine lv_lload_n hx hb dX2_leastQuotient_41 rfl (lv_at hl 2 rfl) ?_
    refine lv_lconst (v := (0 : Int64)) hx hb dX2_leastQuotient_42 (by decide) ?_
    refine kp_lle (tgt := 55) hx hb dX2_leastQuotient_43 dX2_leastQuotient_44 (by decide) (fun q_2 => ?_) (fun q_2 => ?_)
    · refine lv_ldc2 (v := (-cw_inf)) hx hb hown (hw _ kw_65 rfl) dX2_leastQuotient_55 ?_
      exact kp_retlR B (by simp only [F_leastQuotient, if_pos q_1, if_pos q_2]) dX2_leastQuotient_58
    · refine lv_lload_n hx hb dX2_leastQuotient_47 rfl (lv_at hl 1 rfl) ?_
      refine lv_ldc2 (v := (-cw_inf)) hx hb hown (hw _ kw_65 rfl) dX2_leastQuotient_48 ?_
      refine kp_lne (tgt := 59) hx hb dX2_leastQuotient_51 dX2_leastQuotient_52 (by decide) (fun q_3 => ?_) (fun q_3 => ?_)
      · refine lv_lload_n hx hb dX2_leastQuotient_59 rfl (lv_at hl 1 rfl) ?_
        refine lv_aload_n hx hb dX2_leastQuotient_60 rfl (lv_at hl 0 rfl) ?_
        refine kc_getD (j := 0) (v := .ref (aS G)) B hP rfl (by decide) kw_76 dX2_leastQuotient_61 ?_
        refine kp_callNR (rm := rm_unitBits) (As := []) (rest := [.long x]) (r := some (.int (F_unitBits c))) (st1 := [.int (F_unitBits c), .long x]) B (C_unitBits l D ty sz G Z hG c) kt_unitBits kw_79 kw_80 kw_81 (kc_rcS B hP) (by decide) ⟨rfl, rfl⟩ (by decide) rfl (Nat.le_of_ble_eq_true rfl) hl.1 hP hS dX2_leastQuotient_64 rfl ?_
        refine lv_lshl (v := x <<< ((F_unitBits c).toInt64 &&& 63)) hx hb dX2_leastQuotient_67 rfl ?_
        refine lv_lload_n hx hb dX2_leastQuotient_68 rfl (lv_at hl 2 rfl) ?_
        refine kp_callSR (rm := rm_floorDiv) (As := [.long (x <<< ((F_unitBits c).toInt64 &&& 63)), .long y]) (rest := []) (r := some (.long (F_floorDiv (x <<< ((F_unitBits c).toInt64 &&& 63)) y))) (st1 := [.long (F_floorDiv (x <<< ((F_unitBits c).toInt64 &&& 63)) y)]) B (C_floorDiv l D ty sz G Z hG c (x <<< ((F_unitBits c).toInt64 &&& 63)) y (ki_pos q_2)) kt_floorDiv kw_132 kw_133 (by decide) ⟨rfl, rfl⟩ (by decide) rfl (Nat.le_of_ble_eq_true rfl) hl.1 hP hS dX2_leastQuotient_69 rfl ?_
        exact kp_retlR B (by simp only [F_leastQuotient, if_pos q_1, if_neg q_2, if_neg q_3]) dX2_leastQuotient_72
      · refine lv_ldc2 (v := (-cw_inf)) hx hb hown (hw _ kw_65 rfl) dX2_leastQuotient_55 ?_
        exact kp_retlR B (by simp only [F_leastQuotient, if_pos q_1, if_neg q_2, if_pos q_3]) dX2_leastQuotient_58
  · refine lv_lload hx hb dX2_leastQuotient_6 (lv_at hl 3 rfl) ?_
    refine lv_lconst (v := (0 : Int64)) hx hb dX2_leastQuotient_8 (by decide) ?_
    refine kp_lle (tgt := 22) hx hb dX2_leastQuotient_9 dX2_leastQuotient_10 (by decide) (fun q_4 => ?_) (fun q_4 => ?_)
    · refine lv_lconst (v := (0 : Int64)) hx hb dX2_leastQuotient_22 (by decide) ?_
      refine lv_goto (tgt := 40) hx hb dX2_leastQuotient_23 (by decide) ?_
      exact kp_retlR B (by simp only [F_leastQuotient, if_neg q_1, if_pos q_4]) dX2_leastQuotient_40
    · refine lv_lload hx hb dX2_leastQuotient_13 (lv_at hl 3 rfl) ?_
      refine lv_ldc2 (v := cw_inf) hx hb hown (hw _ kw_64 rfl) dX2_leastQuotient_15 ?_
      refine kp_lne (tgt := 26) hx hb dX2_leastQuotient_18 dX2_leastQuotient_19 (by decide) (fun q_5 => ?_) (fun q_5 => ?_)
      · refine lv_lload_n hx hb dX2_leastQuotient_26 rfl (lv_at hl 1 rfl) ?_
        refine lv_aload_n hx hb dX2_leastQuotient_27 rfl (lv_at hl 0 rfl) ?_
        refine kc_getD (j := 0) (v := .ref (aS G)) B hP rfl (by decide) kw_76 dX2_leastQuotient_28 ?_
        refine kp_callNR (rm := rm_unitBits) (As := []) (rest := [.long x]) (r := some (.int (F_unitBits c))) (st1 := [.int (F_unitBits c), .long x]) B (C_unitBits l D ty sz G Z hG c) kt_unitBits kw_79 kw_80 kw_81 (kc_rcS B hP) (by decide) ⟨rfl, rfl⟩ (by decide) rfl (Nat.le_of_ble_eq_true rfl) hl.1 hP hS dX2_leastQuotient_31 rfl ?_
        refine lv_lshl (v := x <<< ((F_unitBits c).toInt64 &&& 63)) hx hb dX2_leastQuotient_34 rfl ?_
        refine lv_lload hx hb dX2_leastQuotient_35 (lv_at hl 3 rfl) ?_
        refine kp_callSR (rm := rm_floorDiv) (As := [.long (x <<< ((F_unitBits c).toInt64 &&& 63)), .long z]) (rest := []) (r := some (.long (F_floorDiv (x <<< ((F_unitBits c).toInt64 &&& 63)) z))) (st1 := [.long (F_floorDiv (x <<< ((F_unitBits c).toInt64 &&& 63)) z)]) B (C_floorDiv l D ty sz G Z hG c (x <<< ((F_unitBits c).toInt64 &&& 63)) z (ki_pos q_4)) kt_floorDiv kw_132 kw_133 (by decide) ⟨rfl, rfl⟩ (by decide) rfl (Nat.le_of_ble_eq_true rfl) hl.1 hP hS dX2_leastQuotient_37 rfl ?_
        exact kp_retlR B (by simp only [F_leastQuotient, if_neg q_1, if_neg q_4, if_neg q_5]) dX2_leastQuotient_40
      · refine lv_lconst (v := (0 : Int64)) hx hb dX2_leastQuotient_22 (by decide) ?_
        refine lv_goto (tgt := 40) hx hb dX2_leastQuotient_23 (by decide) ?_
        exact kp_retlR B (by simp only [F_leastQuotient, if_neg q_1, if_neg q_4, if_pos q_5]) dX2_leastQuotient_40
def S_divideByAbove (c : cw_C) (u : Nat) (x : Int64) (y : Int64) (t : Nat) : cw_C :=
  if (0 : Int64) < y then S_become c t (F_leastQuotient c ((c.2.2 u).1) (z_max x (0 : Int64)) y) (-(F_leastQuotient c (-((c.2.2 u).2)) (z_max x (0 : Int64)) y)) else S_becomeEmpty c t
def rm_divideByAbove : Room := { frames := 2, cells := 0, slots := 0, locals := 66 }
set_option maxHeartbeats 4000000 in
set_option maxRecDepth 100000 in
theorem C_divideByAbove (l : Launch) (D : va_G) (ty : List (ClassId × FieldType)) (sz : Nat) (G : cw_G) (Z : va_W) (hG : cw_ok ty sz G Z) (c : cw_C) (u : Nat) (hu : u < 10) (x : Int64) (y : Int64) (t : Nat) (ht : t < 10) : kp_M l yX2_divideByAbove cX2_divideByAbove 9 none rm_divideByAbove D ty sz [.ref (aD G), .ref (aN G u), .long x, .long y, .ref (aN G t)] (cw_W G c Z) (none) (cw_W G (S_divideByAbove c u x y t) Z) := by
  refine kp_body (by decide) (Nat.le_of_ble_eq_true rfl) rfl ?_
  intro p e s m args below meth cd ls B hin hl hP hS
  obtain ⟨hx, hb, hml, hown, hlk, hr, hw, hE, hK, hsz⟩ := id B
  have hl : lv_has ls 9 [(0, .ref (aD G)), (1, .ref (aN G u)), (2, .long x), (4, .long y), (6, .ref (aN G t))] := hl
  refine lv_lload hx hb dX2_divideByAbove_0 (lv_at hl 3 rfl) ?_
  refine lv_lconst (v := (0 : Int64)) hx hb dX2_divideByAbove_2 (by decide) ?_
  refine kp_lgt (tgt := 13) hx hb dX2_divideByAbove_3 dX2_divideByAbove_4 (by decide) (fun q_1 => ?_) (fun q_1 => ?_)
  · refine lv_lload_n hx hb dX2_divideByAbove_13 rfl (lv_at hl 2 rfl) ?_
    refine lv_lconst (v := (0 : Int64)) hx hb dX2_divideByAbove_14 (by decide) ?_
    refine kp_max (x := x) (y := (0 : Int64)) B hl.1 kw_98 kw_99 kw_91 kw_100 (by decide) (Nat.le_of_ble_eq_true rfl) (Nat.zero_le _) (Nat.zero_le _) dX2_divideByAbove_15 ?_
    refine lv_lstore (lv' := [(7, .long (z_max x (0 : Int64))), (0, .ref (aD G)), (1, .ref (aN G u)), (2, .long x), (4, .long y), (6, .ref (aN G t))]) hx hb dX2_divideByAbove_18 hl (by decide) rfl (fun ls hl => ?_)
    refine lv_aload hx hb dX2_divideByAbove_20 (lv_at hl 5 rfl) ?_
    refine lv_aload_n hx hb dX2_divideByAbove_22 rfl (lv_at hl 1 rfl) ?_
    refine lv_aload_n hx hb dX2_divideByAbove_23 rfl (lv_at hl 2 rfl) ?_
    refine kc_getNX (j := 0) (k := u) (v := .long ((c.2.2 u).1)) B hP hu rfl (by decide) kw_87 dX2_divideByAbove_24 ?_
    refine lv_lload hx hb dX2_divideByAbove_27 (lv_at hl 0 rfl) ?_
    refine lv_lload hx hb dX2_divideByAbove_29 (lv_at hl 4 rfl) ?_
    refine kp_callVR (rm := rm_leastQuotient) (As := [.long ((c.2.2 u).1), .long (z_max x (0 : Int64)), .long y]) (rest := [.ref (aN G t)]) (r := some (.long (F_leastQuotient c ((c.2.2 u).1) (z_max x (0 : Int64)) y))) (st1 := [.long (F_leastQuotient c ((c.2.2 u).1) (z_max x (0 : Int64)) y), .ref (aN G t)]) B (C_leastQuotient l D ty sz G Z hG c ((c.2.2 u).1) (z_max x (0 : Int64)) y) kt_leastQuotient kw_136 kw_137 kw_138 (kc_rcD B hP) (by decide) ⟨rfl, rfl⟩ (by decide) rfl (Nat.le_of_ble_eq_true rfl) hl.1 hP hS dX2_divideByAbove_31 rfl ?_
    refine lv_aload_n hx hb dX2_divideByAbove_34 rfl (lv_at hl 1 rfl) ?_
    refine lv_aload_n hx hb dX2_divideByAbove_35 rfl (lv_at hl 2 rfl) ?_
    refine kc_getNX (j := 1) (k := u) (v := .long ((c.2.2 u).2)) B hP hu rfl (by decide) kw_88 dX2_divideByAbove_36 ?_
    refine lv_lneg hx hb dX2_divideByAbove_39 ?_
    refine lv_lload hx hb dX2_divideByAbove_40 (lv_at hl 0 rfl) ?_
    refine lv_lload hx hb dX2_divideByAbove_42 (lv_at hl 4 rfl) ?_
    refine kp_callVR (rm := rm_leastQuotient) (As := [.long (-((c.2.2 u).2)), .long (z_max x (0 : Int64)), .long y]) (rest := [.long (F_leastQuotient c ((c.2.2 u).1) (z_max x (0 : Int64)) y), .ref (aN G t)]) (r := some (.long (F_leastQuotient c (-((c.2.2 u).2)) (z_max x (0 : Int64)) y))) (st1 := [.long (F_leastQuotient c (-((c.2.2 u).2)) (z_max x (0 : Int64)) y), .long (F_leastQuotient c ((c.2.2 u).1) (z_max x (0 : Int64)) y), .ref (aN G t)]) B (C_leastQuotient l D ty sz G Z hG c (-((c.2.2 u).2)) (z_max x (0 : Int64)) y) kt_leastQuotient kw_136 kw_137 kw_138 (kc_rcD B hP) (by decide) ⟨rfl, rfl⟩ (by decide) rfl (Nat.le_of_ble_eq_true rfl) hl.1 hP hS dX2_divideByAbove_44 rfl ?_
    refine lv_lneg hx hb dX2_divideByAbove_47 ?_
    refine kp_callN (rm := rm_become) (As := [.long (F_leastQuotient c ((c.2.2 u).1) (z_max x (0 : Int64)) y), .long (-(F_leastQuotient c (-((c.2.2 u).2)) (z_max x (0 : Int64)) y))]) (rest := []) (r := none) (st1 := []) (ws' := cw_W G (S_become c t (F_leastQuotient c ((c.2.2 u).1) (z_max x (0 : Int64)) y) (-(F_leastQuotient c (-((c.2.2 u).2)) (z_max x (0 : Int64)) y))) Z) B (C_become l D ty sz G Z hG c t ht (F_leastQuotient c ((c.2.2 u).1) (z_max x (0 : Int64)) y) (-(F_leastQuotient c (-((c.2.2 u).2)) (z_max x (0 : Int64)) y))) kt_become kw_104 kw_105 kw_106 (kc_rcN B hP ht) (by decide) rfl rfl (by decide) rfl (Nat.le_of_ble_eq_true rfl) hl.1 hP hS dX2_divideByAbove_48 rfl (fun H locs hP hS => ?_)
    exact kp_retv B (by simp only [S_divideByAbove, if_pos q_1]; exact hP) hS rfl dX2_divideByAbove_51
  · refine lv_aload hx hb dX2_divideByAbove_7 (lv_at hl 4 rfl) ?_
    refine kp_callN (rm := rm_becomeEmpty) (As := []) (rest := []) (r := none) (st1 := []) (ws' := cw_W G (S_becomeEmpty c t) Z) B (C_becomeEmpty l D ty sz G Z hG c t ht) kt_becomeEmpty kw_109 kw_110 kw_111 (kc_rcN B hP ht) (by decide) rfl rfl (by decide) rfl (Nat.le_of_ble_eq_true rfl) hl.1 hP hS dX2_divideByAbove_9 rfl (fun H locs hP hS => ?_)
    exact kp_retv B (by simp only [S_divideByAbove, if_neg q_1]; exact hP) hS rfl dX2_divideByAbove_12
def S_divide (c : cw_C) (u : Nat) (t : Nat) : cw_C :=
  if (F_isEmpty c u) = (0 : Int32) then (if (F_isEmpty c t) = (0 : Int32) then (if (F_isEmpty (S_divideByAbove (S_divideByAbove c u ((c.2.2 t).1) ((c.2.2 t).2) 8) u (-(((S_divideByAbove c u ((c.2.2 t).1) ((c.2.2 t).2) 8).2.2 t).2)) (-(((S_divideByAbove c u ((c.2.2 t).1) ((c.2.2 t).2) 8).2.2 t).1)) 9) 9) = (0 : Int32) then S_become (S_divideByAbove (S_divideByAbove c u ((c.2.2 t).1) ((c.2.2 t).2) 8) u (-(((S_divideByAbove c u ((c.2.2 t).1) ((c.2.2 t).2) 8).2.2 t).2)) (-(((S_divideByAbove c u ((c.2.2 t).1) ((c.2.2 t).2) 8).2.2 t).1)) 9) 9 (-(((S_divideByAbove (S_divideByAbove c u ((c.2.2 t).1) ((c.2.2 t).2) 8) u (-(((S_divideByAbove c u ((c.2.2 t).1) ((c.2.2 t).2) 8).2.2 t).2)) (-(((S_divideByAbove c u ((c.2.2 t).1) ((c.2.2 t).2) 8).2.2 t).1)) 9).2.2 9).2)) (-(((S_divideByAbove (S_divideByAbove c u ((c.2.2 t).1) ((c.2.2 t).2) 8) u (-(((S_divideByAbove c u ((c.2.2 t).1) ((c.2.2 t).2) 8).2.2 t).2)) (-(((S_divideByAbove c u ((c.2.2 t).1) ((c.2.2 t).2) 8).2.2 t).1)) 9).2.2 9).1)) else S_divideByAbove (S_divideByAbove c u ((c.2.2 t).1) ((c.2.2 t).2) 8) u (-(((S_divideByAbove c u ((c.2.2 t).1) ((c.2.2 t).2) 8).2.2 t).2)) (-(((S_divideByAbove c u ((c.2.2 t).1) ((c.2.2 t).2) 8).2.2 t).1)) 9) else S_becomeEmpty (S_becomeEmpty c 8) 9) else S_becomeEmpty (S_becomeEmpty c 8) 9
def rm_divide : Room := { frames := 3, cells := 0, slots := 0, locals := 94 }
set_option maxHeartbeats 4000000 in
set_option maxRecDepth 100000 in
theorem C_divide (l : Launch) (D : va_G) (ty : List (ClassId × FieldType)) (sz : Nat) (G : cw_G) (Z : va_W) (hG : cw_ok ty sz G Z) (c : cw_C) (u : Nat) (hu : u < 10) (t : Nat) (ht : t < 10) : kp_M l yX2_divide cX2_divide 3 none rm_divide D ty sz [.ref (aD G), .ref (aN G u), .ref (aN G t)] (cw_W G c Z) (none) (cw_W G (S_divide c u t) Z) := by
  refine kp_body (by decide) (Nat.le_of_ble_eq_true rfl) rfl ?_
  intro p e s m args below meth cd ls B hin hl hP hS
  obtain ⟨hx, hb, hml, hown, hlk, hr, hw, hE, hK, hsz⟩ := id B
  have hl : lv_has ls 3 [(0, .ref (aD G)), (1, .ref (aN G u)), (2, .ref (aN G t))] := hl
  refine lv_aload_n hx hb dX2_divide_0 rfl (lv_at hl 1 rfl) ?_
  refine kp_callNR (rm := rm_isEmpty) (As := []) (rest := []) (r := some (.int (F_isEmpty c u))) (st1 := [.int (F_isEmpty c u)]) B (C_isEmpty l D ty sz G Z hG c u hu) kt_isEmpty kw_75 kw_8 kw_9 (kc_rcN B hP hu) (by decide) ⟨rfl, rfl⟩ (by decide) rfl (Nat.le_of_ble_eq_true rfl) hl.1 hP hS dX2_divide_1 rfl ?_
  refine lv_if_ne (tgt := 14) hx hb dX2_divide_4 (by decide) (fun q_1 => ?_) (fun q_1 => ?_)
  · refine lv_aload_n hx hb dX2_divide_14 rfl (lv_at hl 0 rfl) ?_
    refine kc_getD (j := 2) (v := .ref (aN G 8)) B hP rfl (by decide) kw_101 dX2_divide_15 ?_
    refine kp_callN (rm := rm_becomeEmpty) (As := []) (rest := []) (r := none) (st1 := []) (ws' := cw_W G (S_becomeEmpty c 8) Z) B (C_becomeEmpty l D ty sz G Z hG c 8 (by decide)) kt_becomeEmpty kw_109 kw_110 kw_111 (kc_rcN B hP (by decide)) (by decide) rfl rfl (by decide) rfl (Nat.le_of_ble_eq_true rfl) hl.1 hP hS dX2_divide_18 rfl (fun H locs hP hS => ?_)
    refine lv_aload_n hx hb dX2_divide_21 rfl (lv_at hl 0 rfl) ?_
    refine kc_getD (j := 3) (v := .ref (aN G 9)) B hP rfl (by decide) kw_139 dX2_divide_22 ?_
    refine kp_callN (rm := rm_becomeEmpty) (As := []) (rest := []) (r := none) (st1 := []) (ws' := cw_W G (S_becomeEmpty (S_becomeEmpty c 8) 9) Z) B (C_becomeEmpty l D ty sz G Z hG (S_becomeEmpty c 8) 9 (by decide)) kt_becomeEmpty kw_109 kw_110 kw_111 (kc_rcN B hP (by decide)) (by decide) rfl rfl (by decide) rfl (Nat.le_of_ble_eq_true rfl) hl.1 hP hS dX2_divide_25 rfl (fun H locs hP hS => ?_)
    exact kp_retv B (by simp only [S_divide, if_neg q_1]; exact hP) hS rfl dX2_divide_28
  · refine lv_aload_n hx hb dX2_divide_7 rfl (lv_at hl 2 rfl) ?_
    refine kp_callNR (rm := rm_isEmpty) (As := []) (rest := []) (r := some (.int (F_isEmpty c t))) (st1 := [.int (F_isEmpty c t)]) B (C_isEmpty l D ty sz G Z hG c t ht) kt_isEmpty kw_75 kw_8 kw_9 (kc_rcN B hP ht) (by decide) ⟨rfl, rfl⟩ (by decide) rfl (Nat.le_of_ble_eq_true rfl) hl.1 hP hS dX2_divide_8 rfl ?_
    refine lv_if_eq (tgt := 29) hx hb dX2_divide_11 (by decide) (fun q_2 => ?_) (fun q_2 => ?_)
    · refine lv_aload_n hx hb dX2_divide_29 rfl (lv_at hl 0 rfl) ?_
      refine lv_aload_n hx hb dX2_divide_30 rfl (lv_at hl 1 rfl) ?_
      refine lv_aload_n hx hb dX2_divide_31 rfl (lv_at hl 2 rfl) ?_
      refine kc_getNX (j := 0) (k := t) (v := .long ((c.2.2 t).1)) B hP ht rfl (by decide) kw_87 dX2_divide_32 ?_
      refine lv_aload_n hx hb dX2_divide_35 rfl (lv_at hl 2 rfl) ?_
      refine kc_getNX (j := 1) (k := t) (v := .long ((c.2.2 t).2)) B hP ht rfl (by decide) kw_88 dX2_divide_36 ?_
      refine lv_aload_n hx hb dX2_divide_39 rfl (lv_at hl 0 rfl) ?_
      refine kc_getD (j := 2) (v := .ref (aN G 8)) B hP rfl (by decide) kw_101 dX2_divide_40 ?_
      refine kp_callV (rm := rm_divideByAbove) (As := [.ref (aN G u), .long ((c.2.2 t).1), .long ((c.2.2 t).2), .ref (aN G 8)]) (rest := []) (r := none) (st1 := []) (ws' := cw_W G (S_divideByAbove c u ((c.2.2 t).1) ((c.2.2 t).2) 8) Z) B (C_divideByAbove l D ty sz G Z hG c u hu ((c.2.2 t).1) ((c.2.2 t).2) 8 (by decide)) kt_divideByAbove kw_142 kw_143 kw_144 (kc_rcD B hP) (by decide) rfl rfl (by decide) rfl (Nat.le_of_ble_eq_true rfl) hl.1 hP hS dX2_divide_43 rfl (fun H locs hP hS => ?_)
      refine lv_aload_n hx hb dX2_divide_46 rfl (lv_at hl 0 rfl) ?_
      refine lv_aload_n hx hb dX2_divide_47 rfl (lv_at hl 1 rfl) ?_
      refine lv_aload_n hx hb dX2_divide_48 rfl (lv_at hl 2 rfl) ?_
      refine kc_getNX (j := 1) (k := t) (v := .long (((S_divideByAbove c u ((c.2.2 t).1) ((c.2.2 t).2) 8).2.2 t).2)) B hP ht rfl (by decide) kw_88 dX2_divide_49 ?_
      refine lv_lneg hx hb dX2_divide_52 ?_
      refine lv_aload_n hx hb dX2_divide_53 rfl (lv_at hl 2 rfl) ?_
      refine kc_getNX (j := 0) (k := t) (v := .long (((S_divideByAbove c u ((c.2.2 t).1) ((c.2.2 t).2) 8).2.2 t).1)) B hP ht rfl (by decide) kw_87 dX2_divide_54 ?_
      refine lv_lneg hx hb dX2_divide_57 ?_
      refine lv_aload_n hx hb dX2_divide_58 rfl (lv_at hl 0 rfl) ?_
      refine kc_getD (j := 3) (v := .ref (aN G 9)) B hP rfl (by decide) kw_139 dX2_divide_59 ?_
      refine kp_callV (rm := rm_divideByAbove) (As := [.ref (aN G u), .long (-(((S_divideByAbove c u ((c.2.2 t).1) ((c.2.2 t).2) 8).2.2 t).2)), .long (-(((S_divideByAbove c u ((c.2.2 t).1) ((c.2.2 t).2) 8).2.2 t).1)), .ref (aN G 9)]) (rest := []) (r := none) (st1 := []) (ws' := cw_W G (S_divideByAbove (S_divideByAbove c u ((c.2.2 t).1) ((c.2.2 t).2) 8) u (-(((S_divideByAbove c u ((c.2.2 t).1) ((c.2.2 t).2) 8).2.2 t).2)) (-(((S_divideByAbove c u ((c.2.2 t).1) ((c.2.2 t).2) 8).2.2 t).1)) 9) Z) B (C_divideByAbove l D ty sz G Z hG (S_divideByAbove c u ((c.2.2 t).1) ((c.2.2 t).2) 8) u hu (-(((S_divideByAbove c u ((c.2.2 t).1) ((c.2.2 t).2) 8).2.2 t).2)) (-(((S_divideByAbove c u ((c.2.2 t).1) ((c.2.2 t).2) 8).2.2 t).1)) 9 (by decide)) kt_divideByAbove kw_142 kw_143 kw_144 (kc_rcD B hP) (by decide) rfl rfl (by decide) rfl (Nat.le_of_ble_eq_true rfl) hl.1 hP hS dX2_divide_62 rfl (fun H locs hP hS => ?_)
      refine lv_aload_n hx hb dX2_divide_65 rfl (lv_at hl 0 rfl) ?_
      refine kc_getD (j := 3) (v := .ref (aN G 9)) B hP rfl (by decide) kw_139 dX2_divide_66 ?_
      refine kp_callNR (rm := rm_isEmpty) (As := []) (rest := []) (r := some (.int (F_isEmpty (S_divideByAbove (S_divideByAbove c u ((c.2.2 t).1) ((c.2.2 t).2) 8) u (-(((S_divideByAbove c u ((c.2.2 t).1) ((c.2.2 t).2) 8).2.2 t).2)) (-(((S_divideByAbove c u ((c.2.2 t).1) ((c.2.2 t).2) 8).2.2 t).1)) 9) 9))) (st1 := [.int (F_isEmpty (S_divideByAbove (S_divideByAbove c u ((c.2.2 t).1) ((c.2.2 t).2) 8) u (-(((S_divideByAbove c u ((c.2.2 t).1) ((c.2.2 t).2) 8).2.2 t).2)) (-(((S_divideByAbove c u ((c.2.2 t).1) ((c.2.2 t).2) 8).2.2 t).1)) 9) 9)]) B (C_isEmpty l D ty sz G Z hG (S_divideByAbove (S_divideByAbove c u ((c.2.2 t).1) ((c.2.2 t).2) 8) u (-(((S_divideByAbove c u ((c.2.2 t).1) ((c.2.2 t).2) 8).2.2 t).2)) (-(((S_divideByAbove c u ((c.2.2 t).1) ((c.2.2 t).2) 8).2.2 t).1)) 9) 9 (by decide)) kt_isEmpty kw_75 kw_8 kw_9 (kc_rcN B hP (by decide)) (by decide) ⟨rfl, rfl⟩ (by decide) rfl (Nat.le_of_ble_eq_true rfl) hl.1 hP hS dX2_divide_69 rfl ?_
      refine lv_if_ne (tgt := 98) hx hb dX2_divide_72 (by decide) (fun q_3 => ?_) (fun q_3 => ?_)
      · exact kp_retv B (by simp only [S_divide, if_pos q_1, if_pos q_2, if_neg q_3]; exact hP) hS rfl dX2_divide_98
      · refine lv_aload_n hx hb dX2_divide_75 rfl (lv_at hl 0 rfl) ?_
        refine kc_getD (j := 3) (v := .ref (aN G 9)) B hP rfl (by decide) kw_139 dX2_divide_76 ?_
        refine lv_aload_n hx hb dX2_divide_79 rfl (lv_at hl 0 rfl) ?_
        refine kc_getD (j := 3) (v := .ref (aN G 9)) B hP rfl (by decide) kw_139 dX2_divide_80 ?_
        refine kc_getNX (j := 1) (k := 9) (v := .long (((S_divideByAbove (S_divideByAbove c u ((c.2.2 t).1) ((c.2.2 t).2) 8) u (-(((S_divideByAbove c u ((c.2.2 t).1) ((c.2.2 t).2) 8).2.2 t).2)) (-(((S_divideByAbove c u ((c.2.2 t).1) ((c.2.2 t).2) 8).2.2 t).1)) 9).2.2 9).2)) B hP (by decide) rfl (by decide) kw_88 dX2_divide_83 ?_
        refine lv_lneg hx hb dX2_divide_86 ?_
        refine lv_aload_n hx hb dX2_divide_87 rfl (lv_at hl 0 rfl) ?_
        refine kc_getD (j := 3) (v := .ref (aN G 9)) B hP rfl (by decide) kw_139 dX2_divide_88 ?_
        refine kc_getNX (j := 0) (k := 9) (v := .long (((S_divideByAbove (S_divideByAbove c u ((c.2.2 t).1) ((c.2.2 t).2) 8) u (-(((S_divideByAbove c u ((c.2.2 t).1) ((c.2.2 t).2) 8).2.2 t).2)) (-(((S_divideByAbove c u ((c.2.2 t).1) ((c.2.2 t).2) 8).2.2 t).1)) 9).2.2 9).1)) B hP (by decide) rfl (by decide) kw_87 dX2_divide_91 ?_
        refine lv_lneg hx hb dX2_divide_94 ?_
        refine kp_callN (rm := rm_become) (As := [.long (-(((S_divideByAbove (S_divideByAbove c u ((c.2.2 t).1) ((c.2.2 t).2) 8) u (-(((S_divideByAbove c u ((c.2.2 t).1) ((c.2.2 t).2) 8).2.2 t).2)) (-(((S_divideByAbove c u ((c.2.2 t).1) ((c.2.2 t).2) 8).2.2 t).1)) 9).2.2 9).2)), .long (-(((S_divideByAbove (S_divideByAbove c u ((c.2.2 t).1) ((c.2.2 t).2) 8) u (-(((S_divideByAbove c u ((c.2.2 t).1) ((c.2.2 t).2) 8).2.2 t).2)) (-(((S_divideByAbove c u ((c.2.2 t).1) ((c.2.2 t).2) 8).2.2 t).1)) 9).2.2 9).1))]) (rest := []) (r := none) (st1 := []) (ws' := cw_W G (S_become (S_divideByAbove (S_divideByAbove c u ((c.2.2 t).1) ((c.2.2 t).2) 8) u (-(((S_divideByAbove c u ((c.2.2 t).1) ((c.2.2 t).2) 8).2.2 t).2)) (-(((S_divideByAbove c u ((c.2.2 t).1) ((c.2.2 t).2) 8).2.2 t).1)) 9) 9 (-(((S_divideByAbove (S_divideByAbove c u ((c.2.2 t).1) ((c.2.2 t).2) 8) u (-(((S_divideByAbove c u ((c.2.2 t).1) ((c.2.2 t).2) 8).2.2 t).2)) (-(((S_divideByAbove c u ((c.2.2 t).1) ((c.2.2 t).2) 8).2.2 t).1)) 9).2.2 9).2)) (-(((S_divideByAbove (S_divideByAbove c u ((c.2.2 t).1) ((c.2.2 t).2) 8) u (-(((S_divideByAbove c u ((c.2.2 t).1) ((c.2.2 t).2) 8).2.2 t).2)) (-(((S_divideByAbove c u ((c.2.2 t).1) ((c.2.2 t).2) 8).2.2 t).1)) 9).2.2 9).1))) Z) B (C_become l D ty sz G Z hG (S_divideByAbove (S_divideByAbove c u ((c.2.2 t).1) ((c.2.2 t).2) 8) u (-(((S_divideByAbove c u ((c.2.2 t).1) ((c.2.2 t).2) 8).2.2 t).2)) (-(((S_divideByAbove c u ((c.2.2 t).1) ((c.2.2 t).2) 8).2.2 t).1)) 9) 9 (by decide) (-(((S_divideByAbove (S_divideByAbove c u ((c.2.2 t).1) ((c.2.2 t).2) 8) u (-(((S_divideByAbove c u ((c.2.2 t).1) ((c.2.2 t).2) 8).2.2 t).2)) (-(((S_divideByAbove c u ((c.2.2 t).1) ((c.2.2 t).2) 8).2.2 t).1)) 9).2.2 9).2)) (-(((S_divideByAbove (S_divideByAbove c u ((c.2.2 t).1) ((c.2.2 t).2) 8) u (-(((S_divideByAbove c u ((c.2.2 t).1) ((c.2.2 t).2) 8).2.2 t).2)) (-(((S_divideByAbove c u ((c.2.2 t).1) ((c.2.2 t).2) 8).2.2 t).1)) 9).2.2 9).1))) kt_become kw_104 kw_105 kw_106 (kc_rcN B hP (by decide)) (by decide) rfl rfl (by decide) rfl (Nat.le_of_ble_eq_true rfl) hl.1 hP hS dX2_divide_95 rfl (fun H locs hP hS => ?_)
        exact kp_retv B (by simp only [S_divide, if_pos q_1, if_pos q_2, if_pos q_3]; exact hP) hS rfl dX2_divide_98
    · refine lv_aload_n hx hb dX2_divide_14 rfl (lv_at hl 0 rfl) ?_
      refine kc_getD (j := 2) (v := .ref (aN G 8)) B hP rfl (by decide) kw_101 dX2_divide_15 ?_
      refine kp_callN (rm := rm_becomeEmpty) (As := []) (rest := []) (r := none) (st1 := []) (ws' := cw_W G (S_becomeEmpty c 8) Z) B (C_becomeEmpty l D ty sz G Z hG c 8 (by decide)) kt_becomeEmpty kw_109 kw_110 kw_111 (kc_rcN B hP (by decide)) (by decide) rfl rfl (by decide) rfl (Nat.le_of_ble_eq_true rfl) hl.1 hP hS dX2_divide_18 rfl (fun H locs hP hS => ?_)
      refine lv_aload_n hx hb dX2_divide_21 rfl (lv_at hl 0 rfl) ?_
      refine kc_getD (j := 3) (v := .ref (aN G 9)) B hP rfl (by decide) kw_139 dX2_divide_22 ?_
      refine kp_callN (rm := rm_becomeEmpty) (As := []) (rest := []) (r := none) (st1 := []) (ws' := cw_W G (S_becomeEmpty (S_becomeEmpty c 8) 9) Z) B (C_becomeEmpty l D ty sz G Z hG (S_becomeEmpty c 8) 9 (by decide)) kt_becomeEmpty kw_109 kw_110 kw_111 (kc_rcN B hP (by decide)) (by decide) rfl rfl (by decide) rfl (Nat.le_of_ble_eq_true rfl) hl.1 hP hS dX2_divide_25 rfl (fun H locs hP hS => ?_)
      exact kp_retv B (by simp only [S_divide, if_pos q_1, if_neg q_2]; exact hP) hS rfl dX2_divide_28
def S_reckonOne (c : cw_C) (x : Int32) (u : Nat) : cw_C :=
  if (F_isEmpty c u) = (0 : Int32) then (if x = (8 : Int32) then S_become c 8 (-((c.2.2 u).2)) (-((c.2.2 u).1)) else (if x = (9 : Int32) then S_become (S_takeSize c u) 8 (F_productNotAbove (S_takeSize c u) (((S_takeSize c u).2.2 8).1) (((S_takeSize c u).2.2 8).1)) (F_productNotBelow (S_takeSize c u) (((S_takeSize c u).2.2 8).2) (((S_takeSize c u).2.2 8).2)) else (if x = (10 : Int32) then S_takeRoot c u else (if x = (11 : Int32) then S_takeSize c u else S_becomeEmpty c 8)))) else S_becomeEmpty c 8
def rm_reckonOne : Room := { frames := 3, cells := 0, slots := 0, locals := 73 }
set_option maxHeartbeats 4000000 in
set_option maxRecDepth 100000 in
theorem C_reckonOne (l : Launch) (D : va_G) (ty : List (ClassId × FieldType)) (sz : Nat) (G : cw_G) (Z : va_W) (hG : cw_ok ty sz G Z) (c : cw_C) (x : Int32) (u : Nat) (hu : u < 10) : kp_M l yX2_reckonOne cX2_reckonOne 3 none rm_reckonOne D ty sz [.ref (aD G), .int x, .ref (aN G u)] (cw_W G c Z) (none) (cw_W G (S_reckonOne c x u) Z) := by
  refine kp_body (by decide) (Nat.le_of_ble_eq_true rfl) rfl ?_
  intro p e s m args below meth cd ls B hin hl hP hS
  obtain ⟨hx, hb, hml, hown, hlk, hr, hw, hE, hK, hsz⟩ := id B
  have hl : lv_has ls 3 [(0, .ref (aD G)), (1, .int x), (2, .ref (aN G u))] := hl
  refine lv_aload_n hx hb dX2_reckonOne_0 rfl (lv_at hl 2 rfl) ?_
  refine kp_callNR (rm := rm_isEmpty) (As := []) (rest := []) (r := some (.int (F_isEmpty c u))) (st1 := [.int (F_isEmpty c u)]) B (C_isEmpty l D ty sz G Z hG c u hu) kt_isEmpty kw_75 kw_8 kw_9 (kc_rcN B hP hu) (by decide) ⟨rfl, rfl⟩ (by decide) rfl (Nat.le_of_ble_eq_true rfl) hl.1 hP hS dX2_reckonOne_1 rfl ?_
  refine lv_if_eq (tgt := 15) hx hb dX2_reckonOne_4 (by decide) (fun q_1 => ?_) (fun q_1 => ?_)
  · refine lv_iload_n hx hb dX2_reckonOne_15 rfl (lv_at hl 1 rfl) ?_
    by_cases q_2 : x = (8 : Int32)
    · refine lv_tableIn (tgt := 48) hx hb dX2_reckonOne_16 (by rw [q_2]; decide) (by rw [q_2]; decide) (by rw [q_2]; rfl) (by decide) ?_
      refine lv_aload_n hx hb dX2_reckonOne_48 rfl (lv_at hl 0 rfl) ?_
      refine kc_getD (j := 2) (v := .ref (aN G 8)) B hP rfl (by decide) kw_101 dX2_reckonOne_49 ?_
      refine lv_aload_n hx hb dX2_reckonOne_52 rfl (lv_at hl 2 rfl) ?_
      refine kc_getNX (j := 1) (k := u) (v := .long ((c.2.2 u).2)) B hP hu rfl (by decide) kw_88 dX2_reckonOne_53 ?_
      refine lv_lneg hx hb dX2_reckonOne_56 ?_
      refine lv_aload_n hx hb dX2_reckonOne_57 rfl (lv_at hl 2 rfl) ?_
      refine kc_getNX (j := 0) (k := u) (v := .long ((c.2.2 u).1)) B hP hu rfl (by decide) kw_87 dX2_reckonOne_58 ?_
      refine lv_lneg hx hb dX2_reckonOne_61 ?_
      refine kp_callN (rm := rm_become) (As := [.long (-((c.2.2 u).2)), .long (-((c.2.2 u).1))]) (rest := []) (r := none) (st1 := []) (ws' := cw_W G (S_become c 8 (-((c.2.2 u).2)) (-((c.2.2 u).1))) Z) B (C_become l D ty sz G Z hG c 8 (by decide) (-((c.2.2 u).2)) (-((c.2.2 u).1))) kt_become kw_104 kw_105 kw_106 (kc_rcN B hP (by decide)) (by decide) rfl rfl (by decide) rfl (Nat.le_of_ble_eq_true rfl) hl.1 hP hS dX2_reckonOne_62 rfl (fun H locs hP hS => ?_)
      refine lv_goto (tgt := 142) hx hb dX2_reckonOne_65 (by decide) ?_
      exact kp_retv B (by simp only [S_reckonOne, if_pos q_1, if_pos q_2]; exact hP) hS rfl dX2_reckonOne_142
    · by_cases q_3 : x = (9 : Int32)
      · refine lv_tableIn (tgt := 68) hx hb dX2_reckonOne_16 (by rw [q_3]; decide) (by rw [q_3]; decide) (by rw [q_3]; rfl) (by decide) ?_
        refine lv_aload_n hx hb dX2_reckonOne_68 rfl (lv_at hl 0 rfl) ?_
        refine lv_aload_n hx hb dX2_reckonOne_69 rfl (lv_at hl 2 rfl) ?_
        refine kp_callV (rm := rm_takeSize) (As := [.ref (aN G u)]) (rest := []) (r := none) (st1 := []) (ws' := cw_W G (S_takeSize c u) Z) B (C_takeSize l D ty sz G Z hG c u hu) kt_takeSize kw_147 kw_148 kw_149 (kc_rcD B hP) (by decide) rfl rfl (by decide) rfl (Nat.le_of_ble_eq_true rfl) hl.1 hP hS dX2_reckonOne_70 rfl (fun H locs hP hS => ?_)
        refine lv_aload_n hx hb dX2_reckonOne_73 rfl (lv_at hl 0 rfl) ?_
        refine kc_getD (j := 2) (v := .ref (aN G 8)) B hP rfl (by decide) kw_101 dX2_reckonOne_74 ?_
        refine lv_aload_n hx hb dX2_reckonOne_77 rfl (lv_at hl 0 rfl) ?_
        refine lv_aload_n hx hb dX2_reckonOne_78 rfl (lv_at hl 0 rfl) ?_
        refine kc_getD (j := 2) (v := .ref (aN G 8)) B hP rfl (by decide) kw_101 dX2_reckonOne_79 ?_
        refine kc_getNX (j := 0) (k := 8) (v := .long (((S_takeSize c u).2.2 8).1)) B hP (by decide) rfl (by decide) kw_87 dX2_reckonOne_82 ?_
        refine lv_aload_n hx hb dX2_reckonOne_85 rfl (lv_at hl 0 rfl) ?_
        refine kc_getD (j := 2) (v := .ref (aN G 8)) B hP rfl (by decide) kw_101 dX2_reckonOne_86 ?_
        refine kc_getNX (j := 0) (k := 8) (v := .long (((S_takeSize c u).2.2 8).1)) B hP (by decide) rfl (by decide) kw_87 dX2_reckonOne_89 ?_
        refine kp_callVR (rm := rm_productNotAbove) (As := [.long (((S_takeSize c u).2.2 8).1), .long (((S_takeSize c u).2.2 8).1)]) (rest := [.ref (aN G 8)]) (r := some (.long (F_productNotAbove (S_takeSize c u) (((S_takeSize c u).2.2 8).1) (((S_takeSize c u).2.2 8).1)))) (st1 := [.long (F_productNotAbove (S_takeSize c u) (((S_takeSize c u).2.2 8).1) (((S_takeSize c u).2.2 8).1)), .ref (aN G 8)]) B (C_productNotAbove l D ty sz G Z hG (S_takeSize c u) (((S_takeSize c u).2.2 8).1) (((S_takeSize c u).2.2 8).1)) kt_productNotAbove kw_84 kw_85 kw_86 (kc_rcD B hP) (by decide) ⟨rfl, rfl⟩ (by decide) rfl (Nat.le_of_ble_eq_true rfl) hl.1 hP hS dX2_reckonOne_92 rfl ?_
        refine lv_aload_n hx hb dX2_reckonOne_95 rfl (lv_at hl 0 rfl) ?_
        refine lv_aload_n hx hb dX2_reckonOne_96 rfl (lv_at hl 0 rfl) ?_
        refine kc_getD (j := 2) (v := .ref (aN G 8)) B hP rfl (by decide) kw_101 dX2_reckonOne_97 ?_
        refine kc_getNX (j := 1) (k := 8) (v := .long (((S_takeSize c u).2.2 8).2)) B hP (by decide) rfl (by decide) kw_88 dX2_reckonOne_100 ?_
        refine lv_aload_n hx hb dX2_reckonOne_103 rfl (lv_at hl 0 rfl) ?_
        refine kc_getD (j := 2) (v := .ref (aN G 8)) B hP rfl (by decide) kw_101 dX2_reckonOne_104 ?_
        refine kc_getNX (j := 1) (k := 8) (v := .long (((S_takeSize c u).2.2 8).2)) B hP (by decide) rfl (by decide) kw_88 dX2_reckonOne_107 ?_
        refine kp_callVR (rm := rm_productNotBelow) (As := [.long (((S_takeSize c u).2.2 8).2), .long (((S_takeSize c u).2.2 8).2)]) (rest := [.long (F_productNotAbove (S_takeSize c u) (((S_takeSize c u).2.2 8).1) (((S_takeSize c u).2.2 8).1)), .ref (aN G 8)]) (r := some (.long (F_productNotBelow (S_takeSize c u) (((S_takeSize c u).2.2 8).2) (((S_takeSize c u).2.2 8).2)))) (st1 := [.long (F_productNotBelow (S_takeSize c u) (((S_takeSize c u).2.2 8).2) (((S_takeSize c u).2.2 8).2)), .long (F_productNotAbove (S_takeSize c u) (((S_takeSize c u).2.2 8).1) (((S_takeSize c u).2.2 8).1)), .ref (aN G 8)]) B (C_productNotBelow l D ty sz G Z hG (S_takeSize c u) (((S_takeSize c u).2.2 8).2) (((S_takeSize c u).2.2 8).2)) kt_productNotBelow kw_95 kw_96 kw_97 (kc_rcD B hP) (by decide) ⟨rfl, rfl⟩ (by decide) rfl (Nat.le_of_ble_eq_true rfl) hl.1 hP hS dX2_reckonOne_110 rfl ?_
        refine kp_callN (rm := rm_become) (As := [.long (F_productNotAbove (S_takeSize c u) (((S_takeSize c u).2.2 8).1) (((S_takeSize c u).2.2 8).1)), .long (F_productNotBelow (S_takeSize c u) (((S_takeSize c u).2.2 8).2) (((S_takeSize c u).2.2 8).2))]) (rest := []) (r := none) (st1 := []) (ws' := cw_W G (S_become (S_takeSize c u) 8 (F_productNotAbove (S_takeSize c u) (((S_takeSize c u).2.2 8).1) (((S_takeSize c u).2.2 8).1)) (F_productNotBelow (S_takeSize c u) (((S_takeSize c u).2.2 8).2) (((S_takeSize c u).2.2 8).2))) Z) B (C_become l D ty sz G Z hG (S_takeSize c u) 8 (by decide) (F_productNotAbove (S_takeSize c u) (((S_takeSize c u).2.2 8).1) (((S_takeSize c u).2.2 8).1)) (F_productNotBelow (S_takeSize c u) (((S_takeSize c u).2.2 8).2) (((S_takeSize c u).2.2 8).2))) kt_become kw_104 kw_105 kw_106 (kc_rcN B hP (by decide)) (by decide) rfl rfl (by decide) rfl (Nat.le_of_ble_eq_true rfl) hl.1 hP hS dX2_reckonOne_113 rfl (fun H locs hP hS => ?_)
        refine lv_goto (tgt := 142) hx hb dX2_reckonOne_116 (by decide) ?_
        exact kp_retv B (by simp only [S_reckonOne, if_pos q_1, if_neg q_2, if_pos q_3]; exact hP) hS rfl dX2_reckonOne_142
      · by_cases q_4 : x = (10 : Int32)
        · refine lv_tableIn (tgt := 119) hx hb dX2_reckonOne_16 (by rw [q_4]; decide) (by rw [q_4]; decide) (by rw [q_4]; rfl) (by decide) ?_
          refine lv_aload_n hx hb dX2_reckonOne_119 rfl (lv_at hl 0 rfl) ?_
          refine lv_aload_n hx hb dX2_reckonOne_120 rfl (lv_at hl 2 rfl) ?_
          refine kp_callV (rm := rm_takeRoot) (As := [.ref (aN G u)]) (rest := []) (r := none) (st1 := []) (ws' := cw_W G (S_takeRoot c u) Z) B (C_takeRoot l D ty sz G Z hG c u hu) kt_takeRoot kw_152 kw_153 kw_154 (kc_rcD B hP) (by decide) rfl rfl (by decide) rfl (Nat.le_of_ble_eq_true rfl) hl.1 hP hS dX2_reckonOne_121 rfl (fun H locs hP hS => ?_)
          refine lv_goto (tgt := 142) hx hb dX2_reckonOne_124 (by decide) ?_
          exact kp_retv B (by simp only [S_reckonOne, if_pos q_1, if_neg q_2, if_neg q_3, if_pos q_4]; exact hP) hS rfl dX2_reckonOne_142
        · by_cases q_5 : x = (11 : Int32)
          · refine lv_tableIn (tgt := 127) hx hb dX2_reckonOne_16 (by rw [q_5]; decide) (by rw [q_5]; decide) (by rw [q_5]; rfl) (by decide) ?_
            refine lv_aload_n hx hb dX2_reckonOne_127 rfl (lv_at hl 0 rfl) ?_
            refine lv_aload_n hx hb dX2_reckonOne_128 rfl (lv_at hl 2 rfl) ?_
            refine kp_callV (rm := rm_takeSize) (As := [.ref (aN G u)]) (rest := []) (r := none) (st1 := []) (ws' := cw_W G (S_takeSize c u) Z) B (C_takeSize l D ty sz G Z hG c u hu) kt_takeSize kw_147 kw_148 kw_149 (kc_rcD B hP) (by decide) rfl rfl (by decide) rfl (Nat.le_of_ble_eq_true rfl) hl.1 hP hS dX2_reckonOne_129 rfl (fun H locs hP hS => ?_)
            refine lv_goto (tgt := 142) hx hb dX2_reckonOne_132 (by decide) ?_
            exact kp_retv B (by simp only [S_reckonOne, if_pos q_1, if_neg q_2, if_neg q_3, if_neg q_4, if_pos q_5]; exact hP) hS rfl dX2_reckonOne_142
          · refine lv_tableOut (tgt := 135) hx hb dX2_reckonOne_16 (kc_out4 q_2 q_3 q_4 q_5) (by decide) ?_
            refine lv_aload_n hx hb dX2_reckonOne_135 rfl (lv_at hl 0 rfl) ?_
            refine kc_getD (j := 2) (v := .ref (aN G 8)) B hP rfl (by decide) kw_101 dX2_reckonOne_136 ?_
            refine kp_callN (rm := rm_becomeEmpty) (As := []) (rest := []) (r := none) (st1 := []) (ws' := cw_W G (S_becomeEmpty c 8) Z) B (C_becomeEmpty l D ty sz G Z hG c 8 (by decide)) kt_becomeEmpty kw_109 kw_110 kw_111 (kc_rcN B hP (by decide)) (by decide) rfl rfl (by decide) rfl (Nat.le_of_ble_eq_true rfl) hl.1 hP hS dX2_reckonOne_139 rfl (fun H locs hP hS => ?_)
            exact kp_retv B (by simp only [S_reckonOne, if_pos q_1, if_neg q_2, if_neg q_3, if_neg q_4, if_neg q_5]; exact hP) hS rfl dX2_reckonOne_142
  · refine lv_aload_n hx hb dX2_reckonOne_7 rfl (lv_at hl 0 rfl) ?_
    refine kc_getD (j := 2) (v := .ref (aN G 8)) B hP rfl (by decide) kw_101 dX2_reckonOne_8 ?_
    refine kp_callN (rm := rm_becomeEmpty) (As := []) (rest := []) (r := none) (st1 := []) (ws' := cw_W G (S_becomeEmpty c 8) Z) B (C_becomeEmpty l D ty sz G Z hG c 8 (by decide)) kt_becomeEmpty kw_109 kw_110 kw_111 (kc_rcN B hP (by decide)) (by decide) rfl rfl (by decide) rfl (Nat.le_of_ble_eq_true rfl) hl.1 hP hS dX2_reckonOne_11 rfl (fun H locs hP hS => ?_)
    exact kp_retv B (by simp only [S_reckonOne, if_neg q_1]; exact hP) hS rfl dX2_reckonOne_14
def S_reckonTwo (c : cw_C) (x : Int32) (u : Nat) (t : Nat) : cw_C :=
  if x = (4 : Int32) then S_join c u t else (if (F_isEmpty c u) = (0 : Int32) then (if (F_isEmpty c t) = (0 : Int32) then (if x = (0 : Int32) then S_become c 8 (F_plus ((c.2.2 u).1) ((c.2.2 t).1)) (F_plus ((c.2.2 u).2) ((c.2.2 t).2)) else (if x = (1 : Int32) then S_become c 8 (F_plus ((c.2.2 u).1) (-((c.2.2 t).2))) (F_plus ((c.2.2 u).2) (-((c.2.2 t).1))) else (if x = (2 : Int32) then S_multiply c u t else (if x = (3 : Int32) then S_join (S_divide c u t) 8 9 else (if x = (5 : Int32) then S_meet c u t else (if x = (6 : Int32) then S_become c 8 (z_min ((c.2.2 u).1) ((c.2.2 t).1)) (z_min ((c.2.2 u).2) ((c.2.2 t).2)) else (if x = (7 : Int32) then S_become c 8 (z_max ((c.2.2 u).1) ((c.2.2 t).1)) (z_max ((c.2.2 u).2) ((c.2.2 t).2)) else S_becomeEmpty c 8))))))) else S_becomeEmpty c 8) else S_becomeEmpty c 8)
def rm_reckonTwo : Room := { frames := 4, cells := 0, slots := 0, locals := 116 }
set_option maxHeartbeats 4000000 in
set_option maxRecDepth 100000 in
theorem C_reckonTwo (l : Launch) (D : va_G) (ty : List (ClassId × FieldType)) (sz : Nat) (G : cw_G) (Z : va_W) (hG : cw_ok ty sz G Z) (c : cw_C) (x : Int32) (u : Nat) (hu : u < 10) (t : Nat) (ht : t < 10) : kp_M l yX2_reckonTwo cX2_reckonTwo 4 none rm_reckonTwo D ty sz [.ref (aD G), .int x, .ref (aN G u), .ref (aN G t)] (cw_W G c Z) (none) (cw_W G (S_reckonTwo c x u t) Z) := by
  refine kp_body (by decide) (Nat.le_of_ble_eq_true rfl) rfl ?_
  intro p e s m args below meth cd ls B hin hl hP hS
  obtain ⟨hx, hb, hml, hown, hlk, hr, hw, hE, hK, hsz⟩ := id B
  have hl : lv_has ls 4 [(0, .ref (aD G)), (1, .int x), (2, .ref (aN G u)), (3, .ref (aN G t))] := hl
  refine lv_iload_n hx hb dX2_reckonTwo_0 rfl (lv_at hl 1 rfl) ?_
  refine lv_iconst (v := (4 : Int32)) hx hb dX2_reckonTwo_1 (by decide) ?_
  refine lv_icmp_ne (tgt := 12) hx hb dX2_reckonTwo_2 (by decide) (fun q_1 => ?_) (fun q_1 => ?_)
  · refine lv_aload_n hx hb dX2_reckonTwo_12 rfl (lv_at hl 2 rfl) ?_
    refine kp_callNR (rm := rm_isEmpty) (As := []) (rest := []) (r := some (.int (F_isEmpty c u))) (st1 := [.int (F_isEmpty c u)]) B (C_isEmpty l D ty sz G Z hG c u hu) kt_isEmpty kw_75 kw_8 kw_9 (kc_rcN B hP hu) (by decide) ⟨rfl, rfl⟩ (by decide) rfl (Nat.le_of_ble_eq_true rfl) hl.1 hP hS dX2_reckonTwo_13 rfl ?_
    refine lv_if_ne (tgt := 26) hx hb dX2_reckonTwo_16 (by decide) (fun q_2 => ?_) (fun q_2 => ?_)
    · refine lv_aload_n hx hb dX2_reckonTwo_26 rfl (lv_at hl 0 rfl) ?_
      refine kc_getD (j := 2) (v := .ref (aN G 8)) B hP rfl (by decide) kw_101 dX2_reckonTwo_27 ?_
      refine kp_callN (rm := rm_becomeEmpty) (As := []) (rest := []) (r := none) (st1 := []) (ws' := cw_W G (S_becomeEmpty c 8) Z) B (C_becomeEmpty l D ty sz G Z hG c 8 (by decide)) kt_becomeEmpty kw_109 kw_110 kw_111 (kc_rcN B hP (by decide)) (by decide) rfl rfl (by decide) rfl (Nat.le_of_ble_eq_true rfl) hl.1 hP hS dX2_reckonTwo_30 rfl (fun H locs hP hS => ?_)
      exact kp_retv B (by simp only [S_reckonTwo, if_neg q_1, if_neg q_2]; exact hP) hS rfl dX2_reckonTwo_33
    · refine lv_aload_n hx hb dX2_reckonTwo_19 rfl (lv_at hl 3 rfl) ?_
      refine kp_callNR (rm := rm_isEmpty) (As := []) (rest := []) (r := some (.int (F_isEmpty c t))) (st1 := [.int (F_isEmpty c t)]) B (C_isEmpty l D ty sz G Z hG c t ht) kt_isEmpty kw_75 kw_8 kw_9 (kc_rcN B hP ht) (by decide) ⟨rfl, rfl⟩ (by decide) rfl (Nat.le_of_ble_eq_true rfl) hl.1 hP hS dX2_reckonTwo_20 rfl ?_
      refine lv_if_eq (tgt := 34) hx hb dX2_reckonTwo_23 (by decide) (fun q_3 => ?_) (fun q_3 => ?_)
      · refine lv_iload_n hx hb dX2_reckonTwo_34 rfl (lv_at hl 1 rfl) ?_
        by_cases q_4 : x = (0 : Int32)
        · refine lv_tableIn (tgt := 80) hx hb dX2_reckonTwo_35 (by rw [q_4]; decide) (by rw [q_4]; decide) (by rw [q_4]; rfl) (by decide) ?_
          refine lv_aload_n hx hb dX2_reckonTwo_80 rfl (lv_at hl 0 rfl) ?_
          refine kc_getD (j := 2) (v := .ref (aN G 8)) B hP rfl (by decide) kw_101 dX2_reckonTwo_81 ?_
          refine lv_aload_n hx hb dX2_reckonTwo_84 rfl (lv_at hl 2 rfl) ?_
          refine kc_getNX (j := 0) (k := u) (v := .long ((c.2.2 u).1)) B hP hu rfl (by decide) kw_87 dX2_reckonTwo_85 ?_
          refine lv_aload_n hx hb dX2_reckonTwo_88 rfl (lv_at hl 3 rfl) ?_
          refine kc_getNX (j := 0) (k := t) (v := .long ((c.2.2 t).1)) B hP ht rfl (by decide) kw_87 dX2_reckonTwo_89 ?_
          refine kp_callSR (rm := rm_plus) (As := [.long ((c.2.2 u).1), .long ((c.2.2 t).1)]) (rest := [.ref (aN G 8)]) (r := some (.long (F_plus ((c.2.2 u).1) ((c.2.2 t).1)))) (st1 := [.long (F_plus ((c.2.2 u).1) ((c.2.2 t).1)), .ref (aN G 8)]) B (C_plus l D ty sz G Z hG c ((c.2.2 u).1) ((c.2.2 t).1)) kt_plus kw_114 kw_115 (by decide) ⟨rfl, rfl⟩ (by decide) rfl (Nat.le_of_ble_eq_true rfl) hl.1 hP hS dX2_reckonTwo_92 rfl ?_
          refine lv_aload_n hx hb dX2_reckonTwo_95 rfl (lv_at hl 2 rfl) ?_
          refine kc_getNX (j := 1) (k := u) (v := .long ((c.2.2 u).2)) B hP hu rfl (by decide) kw_88 dX2_reckonTwo_96 ?_
          refine lv_aload_n hx hb dX2_reckonTwo_99 rfl (lv_at hl 3 rfl) ?_
          refine kc_getNX (j := 1) (k := t) (v := .long ((c.2.2 t).2)) B hP ht rfl (by decide) kw_88 dX2_reckonTwo_100 ?_
          refine kp_callSR (rm := rm_plus) (As := [.long ((c.2.2 u).2), .long ((c.2.2 t).2)]) (rest := [.long (F_plus ((c.2.2 u).1) ((c.2.2 t).1)), .ref (aN G 8)]) (r := some (.long (F_plus ((c.2.2 u).2) ((c.2.2 t).2)))) (st1 := [.long (F_plus ((c.2.2 u).2) ((c.2.2 t).2)), .long (F_plus ((c.2.2 u).1) ((c.2.2 t).1)), .ref (aN G 8)]) B (C_plus l D ty sz G Z hG c ((c.2.2 u).2) ((c.2.2 t).2)) kt_plus kw_114 kw_115 (by decide) ⟨rfl, rfl⟩ (by decide) rfl (Nat.le_of_ble_eq_true rfl) hl.1 hP hS dX2_reckonTwo_103 rfl ?_
          refine kp_callN (rm := rm_become) (As := [.long (F_plus ((c.2.2 u).1) ((c.2.2 t).1)), .long (F_plus ((c.2.2 u).2) ((c.2.2 t).2))]) (rest := []) (r := none) (st1 := []) (ws' := cw_W G (S_become c 8 (F_plus ((c.2.2 u).1) ((c.2.2 t).1)) (F_plus ((c.2.2 u).2) ((c.2.2 t).2))) Z) B (C_become l D ty sz G Z hG c 8 (by decide) (F_plus ((c.2.2 u).1) ((c.2.2 t).1)) (F_plus ((c.2.2 u).2) ((c.2.2 t).2))) kt_become kw_104 kw_105 kw_106 (kc_rcN B hP (by decide)) (by decide) rfl rfl (by decide) rfl (Nat.le_of_ble_eq_true rfl) hl.1 hP hS dX2_reckonTwo_106 rfl (fun H locs hP hS => ?_)
          refine lv_goto (tgt := 256) hx hb dX2_reckonTwo_109 (by decide) ?_
          exact kp_retv B (by simp only [S_reckonTwo, if_neg q_1, if_pos q_2, if_pos q_3, if_pos q_4]; exact hP) hS rfl dX2_reckonTwo_256
        · by_cases q_5 : x = (1 : Int32)
          · refine lv_tableIn (tgt := 112) hx hb dX2_reckonTwo_35 (by rw [q_5]; decide) (by rw [q_5]; decide) (by rw [q_5]; rfl) (by decide) ?_
            refine lv_aload_n hx hb dX2_reckonTwo_112 rfl (lv_at hl 0 rfl) ?_
            refine kc_getD (j := 2) (v := .ref (aN G 8)) B hP rfl (by decide) kw_101 dX2_reckonTwo_113 ?_
            refine lv_aload_n hx hb dX2_reckonTwo_116 rfl (lv_at hl 2 rfl) ?_
            refine kc_getNX (j := 0) (k := u) (v := .long ((c.2.2 u).1)) B hP hu rfl (by decide) kw_87 dX2_reckonTwo_117 ?_
            refine lv_aload_n hx hb dX2_reckonTwo_120 rfl (lv_at hl 3 rfl) ?_
            refine kc_getNX (j := 1) (k := t) (v := .long ((c.2.2 t).2)) B hP ht rfl (by decide) kw_88 dX2_reckonTwo_121 ?_
            refine lv_lneg hx hb dX2_reckonTwo_124 ?_
            refine kp_callSR (rm := rm_plus) (As := [.long ((c.2.2 u).1), .long (-((c.2.2 t).2))]) (rest := [.ref (aN G 8)]) (r := some (.long (F_plus ((c.2.2 u).1) (-((c.2.2 t).2))))) (st1 := [.long (F_plus ((c.2.2 u).1) (-((c.2.2 t).2))), .ref (aN G 8)]) B (C_plus l D ty sz G Z hG c ((c.2.2 u).1) (-((c.2.2 t).2))) kt_plus kw_114 kw_115 (by decide) ⟨rfl, rfl⟩ (by decide) rfl (Nat.le_of_ble_eq_true rfl) hl.1 hP hS dX2_reckonTwo_125 rfl ?_
            refine lv_aload_n hx hb dX2_reckonTwo_128 rfl (lv_at hl 2 rfl) ?_
            refine kc_getNX (j := 1) (k := u) (v := .long ((c.2.2 u).2)) B hP hu rfl (by decide) kw_88 dX2_reckonTwo_129 ?_
            refine lv_aload_n hx hb dX2_reckonTwo_132 rfl (lv_at hl 3 rfl) ?_
            refine kc_getNX (j := 0) (k := t) (v := .long ((c.2.2 t).1)) B hP ht rfl (by decide) kw_87 dX2_reckonTwo_133 ?_
            refine lv_lneg hx hb dX2_reckonTwo_136 ?_
            refine kp_callSR (rm := rm_plus) (As := [.long ((c.2.2 u).2), .long (-((c.2.2 t).1))]) (rest := [.long (F_plus ((c.2.2 u).1) (-((c.2.2 t).2))), .ref (aN G 8)]) (r := some (.long (F_plus ((c.2.2 u).2) (-((c.2.2 t).1))))) (st1 := [.long (F_plus ((c.2.2 u).2) (-((c.2.2 t).1))), .long (F_plus ((c.2.2 u).1) (-((c.2.2 t).2))), .ref (aN G 8)]) B (C_plus l D ty sz G Z hG c ((c.2.2 u).2) (-((c.2.2 t).1))) kt_plus kw_114 kw_115 (by decide) ⟨rfl, rfl⟩ (by decide) rfl (Nat.le_of_ble_eq_true rfl) hl.1 hP hS dX2_reckonTwo_137 rfl ?_
            refine kp_callN (rm := rm_become) (As := [.long (F_plus ((c.2.2 u).1) (-((c.2.2 t).2))), .long (F_plus ((c.2.2 u).2) (-((c.2.2 t).1)))]) (rest := []) (r := none) (st1 := []) (ws' := cw_W G (S_become c 8 (F_plus ((c.2.2 u).1) (-((c.2.2 t).2))) (F_plus ((c.2.2 u).2) (-((c.2.2 t).1)))) Z) B (C_become l D ty sz G Z hG c 8 (by decide) (F_plus ((c.2.2 u).1) (-((c.2.2 t).2))) (F_plus ((c.2.2 u).2) (-((c.2.2 t).1)))) kt_become kw_104 kw_105 kw_106 (kc_rcN B hP (by decide)) (by decide) rfl rfl (by decide) rfl (Nat.le_of_ble_eq_true rfl) hl.1 hP hS dX2_reckonTwo_140 rfl (fun H locs hP hS => ?_)
            refine lv_goto (tgt := 256) hx hb dX2_reckonTwo_143 (by decide) ?_
            exact kp_retv B (by simp only [S_reckonTwo, if_neg q_1, if_pos q_2, if_pos q_3, if_neg q_4, if_pos q_5]; exact hP) hS rfl dX2_reckonTwo_256
          · by_cases q_6 : x = (2 : Int32)
            · refine lv_tableIn (tgt := 146) hx hb dX2_reckonTwo_35 (by rw [q_6]; decide) (by rw [q_6]; decide) (by rw [q_6]; rfl) (by decide) ?_
              refine lv_aload_n hx hb dX2_reckonTwo_146 rfl (lv_at hl 0 rfl) ?_
              refine lv_aload_n hx hb dX2_reckonTwo_147 rfl (lv_at hl 2 rfl) ?_
              refine lv_aload_n hx hb dX2_reckonTwo_148 rfl (lv_at hl 3 rfl) ?_
              refine kp_callV (rm := rm_multiply) (As := [.ref (aN G u), .ref (aN G t)]) (rest := []) (r := none) (st1 := []) (ws' := cw_W G (S_multiply c u t) Z) B (C_multiply l D ty sz G Z hG c u hu t ht) kt_multiply kw_157 kw_158 kw_159 (kc_rcD B hP) (by decide) rfl rfl (by decide) rfl (Nat.le_of_ble_eq_true rfl) hl.1 hP hS dX2_reckonTwo_149 rfl (fun H locs hP hS => ?_)
              refine lv_goto (tgt := 256) hx hb dX2_reckonTwo_152 (by decide) ?_
              exact kp_retv B (by simp only [S_reckonTwo, if_neg q_1, if_pos q_2, if_pos q_3, if_neg q_4, if_neg q_5, if_pos q_6]; exact hP) hS rfl dX2_reckonTwo_256
            · by_cases q_7 : x = (3 : Int32)
              · refine lv_tableIn (tgt := 155) hx hb dX2_reckonTwo_35 (by rw [q_7]; decide) (by rw [q_7]; decide) (by rw [q_7]; rfl) (by decide) ?_
                refine lv_aload_n hx hb dX2_reckonTwo_155 rfl (lv_at hl 0 rfl) ?_
                refine lv_aload_n hx hb dX2_reckonTwo_156 rfl (lv_at hl 2 rfl) ?_
                refine lv_aload_n hx hb dX2_reckonTwo_157 rfl (lv_at hl 3 rfl) ?_
                refine kp_callV (rm := rm_divide) (As := [.ref (aN G u), .ref (aN G t)]) (rest := []) (r := none) (st1 := []) (ws' := cw_W G (S_divide c u t) Z) B (C_divide l D ty sz G Z hG c u hu t ht) kt_divide kw_162 kw_163 kw_164 (kc_rcD B hP) (by decide) rfl rfl (by decide) rfl (Nat.le_of_ble_eq_true rfl) hl.1 hP hS dX2_reckonTwo_158 rfl (fun H locs hP hS => ?_)
                refine lv_aload_n hx hb dX2_reckonTwo_161 rfl (lv_at hl 0 rfl) ?_
                refine lv_aload_n hx hb dX2_reckonTwo_162 rfl (lv_at hl 0 rfl) ?_
                refine kc_getD (j := 2) (v := .ref (aN G 8)) B hP rfl (by decide) kw_101 dX2_reckonTwo_163 ?_
                refine lv_aload_n hx hb dX2_reckonTwo_166 rfl (lv_at hl 0 rfl) ?_
                refine kc_getD (j := 3) (v := .ref (aN G 9)) B hP rfl (by decide) kw_139 dX2_reckonTwo_167 ?_
                refine kp_callV (rm := rm_join) (As := [.ref (aN G 8), .ref (aN G 9)]) (rest := []) (r := none) (st1 := []) (ws' := cw_W G (S_join (S_divide c u t) 8 9) Z) B (C_join l D ty sz G Z hG (S_divide c u t) 8 (by decide) 9 (by decide)) kt_join kw_167 kw_168 kw_169 (kc_rcD B hP) (by decide) rfl rfl (by decide) rfl (Nat.le_of_ble_eq_true rfl) hl.1 hP hS dX2_reckonTwo_170 rfl (fun H locs hP hS => ?_)
                refine lv_goto (tgt := 256) hx hb dX2_reckonTwo_173 (by decide) ?_
                exact kp_retv B (by simp only [S_reckonTwo, if_neg q_1, if_pos q_2, if_pos q_3, if_neg q_4, if_neg q_5, if_neg q_6, if_pos q_7]; exact hP) hS rfl dX2_reckonTwo_256
              · by_cases q_8 : x = (5 : Int32)
                · refine lv_tableIn (tgt := 176) hx hb dX2_reckonTwo_35 (by rw [q_8]; decide) (by rw [q_8]; decide) (by rw [q_8]; rfl) (by decide) ?_
                  refine lv_aload_n hx hb dX2_reckonTwo_176 rfl (lv_at hl 0 rfl) ?_
                  refine lv_aload_n hx hb dX2_reckonTwo_177 rfl (lv_at hl 2 rfl) ?_
                  refine lv_aload_n hx hb dX2_reckonTwo_178 rfl (lv_at hl 3 rfl) ?_
                  refine kp_callV (rm := rm_meet) (As := [.ref (aN G u), .ref (aN G t)]) (rest := []) (r := none) (st1 := []) (ws' := cw_W G (S_meet c u t) Z) B (C_meet l D ty sz G Z hG c u hu t ht) kt_meet kw_172 kw_173 kw_174 (kc_rcD B hP) (by decide) rfl rfl (by decide) rfl (Nat.le_of_ble_eq_true rfl) hl.1 hP hS dX2_reckonTwo_179 rfl (fun H locs hP hS => ?_)
                  refine lv_goto (tgt := 256) hx hb dX2_reckonTwo_182 (by decide) ?_
                  exact kp_retv B (by simp only [S_reckonTwo, if_neg q_1, if_pos q_2, if_pos q_3, if_neg q_4, if_neg q_5, if_neg q_6, if_neg q_7, if_pos q_8]; exact hP) hS rfl dX2_reckonTwo_256
                · by_cases q_9 : x = (6 : Int32)
                  · refine lv_tableIn (tgt := 185) hx hb dX2_reckonTwo_35 (by rw [q_9]; decide) (by rw [q_9]; decide) (by rw [q_9]; rfl) (by decide) ?_
                    refine lv_aload_n hx hb dX2_reckonTwo_185 rfl (lv_at hl 0 rfl) ?_
                    refine kc_getD (j := 2) (v := .ref (aN G 8)) B hP rfl (by decide) kw_101 dX2_reckonTwo_186 ?_
                    refine lv_aload_n hx hb dX2_reckonTwo_189 rfl (lv_at hl 2 rfl) ?_
                    refine kc_getNX (j := 0) (k := u) (v := .long ((c.2.2 u).1)) B hP hu rfl (by decide) kw_87 dX2_reckonTwo_190 ?_
                    refine lv_aload_n hx hb dX2_reckonTwo_193 rfl (lv_at hl 3 rfl) ?_
                    refine kc_getNX (j := 0) (k := t) (v := .long ((c.2.2 t).1)) B hP ht rfl (by decide) kw_87 dX2_reckonTwo_194 ?_
                    refine kp_min (x := (c.2.2 u).1) (y := (c.2.2 t).1) B hl.1 kw_89 kw_90 kw_91 kw_92 (by decide) (Nat.le_of_ble_eq_true rfl) (Nat.zero_le _) (Nat.zero_le _) dX2_reckonTwo_197 ?_
                    refine lv_aload_n hx hb dX2_reckonTwo_200 rfl (lv_at hl 2 rfl) ?_
                    refine kc_getNX (j := 1) (k := u) (v := .long ((c.2.2 u).2)) B hP hu rfl (by decide) kw_88 dX2_reckonTwo_201 ?_
                    refine lv_aload_n hx hb dX2_reckonTwo_204 rfl (lv_at hl 3 rfl) ?_
                    refine kc_getNX (j := 1) (k := t) (v := .long ((c.2.2 t).2)) B hP ht rfl (by decide) kw_88 dX2_reckonTwo_205 ?_
                    refine kp_min (x := (c.2.2 u).2) (y := (c.2.2 t).2) B hl.1 kw_89 kw_90 kw_91 kw_92 (by decide) (Nat.le_of_ble_eq_true rfl) (Nat.zero_le _) (Nat.zero_le _) dX2_reckonTwo_208 ?_
                    refine kp_callN (rm := rm_become) (As := [.long (z_min ((c.2.2 u).1) ((c.2.2 t).1)), .long (z_min ((c.2.2 u).2) ((c.2.2 t).2))]) (rest := []) (r := none) (st1 := []) (ws' := cw_W G (S_become c 8 (z_min ((c.2.2 u).1) ((c.2.2 t).1)) (z_min ((c.2.2 u).2) ((c.2.2 t).2))) Z) B (C_become l D ty sz G Z hG c 8 (by decide) (z_min ((c.2.2 u).1) ((c.2.2 t).1)) (z_min ((c.2.2 u).2) ((c.2.2 t).2))) kt_become kw_104 kw_105 kw_106 (kc_rcN B hP (by decide)) (by decide) rfl rfl (by decide) rfl (Nat.le_of_ble_eq_true rfl) hl.1 hP hS dX2_reckonTwo_211 rfl (fun H locs hP hS => ?_)
                    refine lv_goto (tgt := 256) hx hb dX2_reckonTwo_214 (by decide) ?_
                    exact kp_retv B (by simp only [S_reckonTwo, if_neg q_1, if_pos q_2, if_pos q_3, if_neg q_4, if_neg q_5, if_neg q_6, if_neg q_7, if_neg q_8, if_pos q_9]; exact hP) hS rfl dX2_reckonTwo_256
                  · by_cases q_10 : x = (7 : Int32)
                    · refine lv_tableIn (tgt := 217) hx hb dX2_reckonTwo_35 (by rw [q_10]; decide) (by rw [q_10]; decide) (by rw [q_10]; rfl) (by decide) ?_
                      refine lv_aload_n hx hb dX2_reckonTwo_217 rfl (lv_at hl 0 rfl) ?_
                      refine kc_getD (j := 2) (v := .ref (aN G 8)) B hP rfl (by decide) kw_101 dX2_reckonTwo_218 ?_
                      refine lv_aload_n hx hb dX2_reckonTwo_221 rfl (lv_at hl 2 rfl) ?_
                      refine kc_getNX (j := 0) (k := u) (v := .long ((c.2.2 u).1)) B hP hu rfl (by decide) kw_87 dX2_reckonTwo_222 ?_
                      refine lv_aload_n hx hb dX2_reckonTwo_225 rfl (lv_at hl 3 rfl) ?_
                      refine kc_getNX (j := 0) (k := t) (v := .long ((c.2.2 t).1)) B hP ht rfl (by decide) kw_87 dX2_reckonTwo_226 ?_
                      refine kp_max (x := (c.2.2 u).1) (y := (c.2.2 t).1) B hl.1 kw_98 kw_99 kw_91 kw_100 (by decide) (Nat.le_of_ble_eq_true rfl) (Nat.zero_le _) (Nat.zero_le _) dX2_reckonTwo_229 ?_
                      refine lv_aload_n hx hb dX2_reckonTwo_232 rfl (lv_at hl 2 rfl) ?_
                      refine kc_getNX (j := 1) (k := u) (v := .long ((c.2.2 u).2)) B hP hu rfl (by decide) kw_88 dX2_reckonTwo_233 ?_
                      refine lv_aload_n hx hb dX2_reckonTwo_236 rfl (lv_at hl 3 rfl) ?_
                      refine kc_getNX (j := 1) (k := t) (v := .long ((c.2.2 t).2)) B hP ht rfl (by decide) kw_88 dX2_reckonTwo_237 ?_
                      refine kp_max (x := (c.2.2 u).2) (y := (c.2.2 t).2) B hl.1 kw_98 kw_99 kw_91 kw_100 (by decide) (Nat.le_of_ble_eq_true rfl) (Nat.zero_le _) (Nat.zero_le _) dX2_reckonTwo_240 ?_
                      refine kp_callN (rm := rm_become) (As := [.long (z_max ((c.2.2 u).1) ((c.2.2 t).1)), .long (z_max ((c.2.2 u).2) ((c.2.2 t).2))]) (rest := []) (r := none) (st1 := []) (ws' := cw_W G (S_become c 8 (z_max ((c.2.2 u).1) ((c.2.2 t).1)) (z_max ((c.2.2 u).2) ((c.2.2 t).2))) Z) B (C_become l D ty sz G Z hG c 8 (by decide) (z_max ((c.2.2 u).1) ((c.2.2 t).1)) (z_max ((c.2.2 u).2) ((c.2.2 t).2))) kt_become kw_104 kw_105 kw_106 (kc_rcN B hP (by decide)) (by decide) rfl rfl (by decide) rfl (Nat.le_of_ble_eq_true rfl) hl.1 hP hS dX2_reckonTwo_243 rfl (fun H locs hP hS => ?_)
                      refine lv_goto (tgt := 256) hx hb dX2_reckonTwo_246 (by decide) ?_
                      exact kp_retv B (by simp only [S_reckonTwo, if_neg q_1, if_pos q_2, if_pos q_3, if_neg q_4, if_neg q_5, if_neg q_6, if_neg q_7, if_neg q_8, if_neg q_9, if_pos q_10]; exact hP) hS rfl dX2_reckonTwo_256
                    · refine lv_tableOut (tgt := 249) hx hb dX2_reckonTwo_35 (kc_out8 q_4 q_5 q_6 q_7 q_1 q_8 q_9 q_10) (by decide) ?_
                      refine lv_aload_n hx hb dX2_reckonTwo_249 rfl (lv_at hl 0 rfl) ?_
                      refine kc_getD (j := 2) (v := .ref (aN G 8)) B hP rfl (by decide) kw_101 dX2_reckonTwo_250 ?_
                      refine kp_callN (rm := rm_becomeEmpty) (As := []) (rest := []) (r := none) (st1 := []) (ws' := cw_W G (S_becomeEmpty c 8) Z) B (C_becomeEmpty l D ty sz G Z hG c 8 (by decide)) kt_becomeEmpty kw_109 kw_110 kw_111 (kc_rcN B hP (by decide)) (by decide) rfl rfl (by decide) rfl (Nat.le_of_ble_eq_true rfl) hl.1 hP hS dX2_reckonTwo_253 rfl (fun H locs hP hS => ?_)
                      exact kp_retv B (by simp only [S_reckonTwo, if_neg q_1, if_pos q_2, if_pos q_3, if_neg q_4, if_neg q_5, if_neg q_6, if_neg q_7, if_neg q_8, if_neg q_9, if_neg q_10]; exact hP) hS rfl dX2_reckonTwo_256
      · refine lv_aload_n hx hb dX2_reckonTwo_26 rfl (lv_at hl 0 rfl) ?_
        refine kc_getD (j := 2) (v := .ref (aN G 8)) B hP rfl (by decide) kw_101 dX2_reckonTwo_27 ?_
        refine kp_callN (rm := rm_becomeEmpty) (As := []) (rest := []) (r := none) (st1 := []) (ws' := cw_W G (S_becomeEmpty c 8) Z) B (C_becomeEmpty l D ty sz G Z hG c 8 (by decide)) kt_becomeEmpty kw_109 kw_110 kw_111 (kc_rcN B hP (by decide)) (by decide) rfl rfl (by decide) rfl (Nat.le_of_ble_eq_true rfl) hl.1 hP hS dX2_reckonTwo_30 rfl (fun H locs hP hS => ?_)
        exact kp_retv B (by simp only [S_reckonTwo, if_neg q_1, if_pos q_2, if_neg q_3]; exact hP) hS rfl dX2_reckonTwo_33
  · refine lv_aload_n hx hb dX2_reckonTwo_5 rfl (lv_at hl 0 rfl) ?_
    refine lv_aload_n hx hb dX2_reckonTwo_6 rfl (lv_at hl 2 rfl) ?_
    refine lv_aload_n hx hb dX2_reckonTwo_7 rfl (lv_at hl 3 rfl) ?_
    refine kp_callV (rm := rm_join) (As := [.ref (aN G u), .ref (aN G t)]) (rest := []) (r := none) (st1 := []) (ws' := cw_W G (S_join c u t) Z) B (C_join l D ty sz G Z hG c u hu t ht) kt_join kw_167 kw_168 kw_169 (kc_rcD B hP) (by decide) rfl rfl (by decide) rfl (Nat.le_of_ble_eq_true rfl) hl.1 hP hS dX2_reckonTwo_8 rfl (fun H locs hP hS => ?_)
    exact kp_retv B (by simp only [S_reckonTwo, if_pos q_1]; exact hP) hS rfl dX2_reckonTwo_11
