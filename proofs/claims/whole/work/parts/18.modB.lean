def B_m_span_1 (c : mw_C) (x : Int64) (y : Int64) (z : Int64) : mw_C := mp_from (mp_is c (z_t (1 : Int32))) (if (F_m_isEnd x) = (0 : Int32) then (-mw_far) else F_m_rounded (mp_is c (z_t (1 : Int32))) x z (0 : Int32))
def B_m_span_2 (c : mw_C) (x : Int64) (y : Int64) (z : Int64) : mw_C := mp_to (B_m_span_1 c x y z) (if (F_m_isEnd y) = (0 : Int32) then mw_far else F_m_rounded (B_m_span_1 c x y z) y z (1 : Int32))
def S_m_span (c : mw_C) (x : Int64) (y : Int64) (z : Int64) : mw_C :=
  B_m_span_2 c x y z
def rm_m_span : Room := { frames := 2, cells := 0, slots := 0, locals := 55 }
set_option maxHeartbeats 4000000 in
set_option maxRecDepth 100000 in
theorem C_m_span (l : Launch) (D : va_G) (ty : List (ClassId × FieldType)) (sz : Nat) (G : mw_G) (Z : va_W) (hG : mw_ok ty sz G Z) (c : mw_C) (x : Int64) (y : Int64) (z : Int64) (hzz : ¬ z = 0) : kp_M l yX3_span cX3_span 7 none rm_m_span D ty sz [.ref (bM G), .long x, .long y, .long z] (mw_W G c Z) (none) (mw_W G (S_m_span c x y z) Z) := by
  refine kp_body (by decide) (Nat.le_of_ble_eq_true rfl) rfl ?_
  intro p e s m args below meth cd ls B hin hl hP hS
  obtain ⟨hx, hb, hml, hown, hlk, hr, hw, hE, hK, hsz⟩ := id B
  have hl : lv_has ls 7 [(0, .ref (bM G)), (1, .long x), (3, .long y), (5, .long z)] := hl
  refine lv_aload_n hx hb dX3_span_0 rfl (lv_at hl 0 rfl) ?_
  refine lv_iconst (v := (1 : Int32)) hx hb dX3_span_1 (by decide) ?_
  refine km_put6 (v := (1 : Int32)) (M' := mp_is c (z_t (1 : Int32))) B hG hP hS (Or.inr rfl) rfl kw_268 dX3_span_2 (fun H locs hP hS => ?_)
  refine lv_aload_n hx hb dX3_span_5 rfl (lv_at hl 0 rfl) ?_
  refine lv_lload_n hx hb dX3_span_6 rfl (lv_at hl 1 rfl) ?_
  refine kp_callSR (rm := rm_m_isEnd) (As := [.long x]) (rest := [.ref (bM G)]) (r := some (.int (F_m_isEnd x))) (st1 := [.int (F_m_isEnd x), .ref (bM G)]) B (C_m_isEnd l D ty sz G Z hG (mp_is c (z_t (1 : Int32))) x) kt_m_isEnd kw_266 kw_267 (by decide) ⟨rfl, rfl⟩ (by decide) rfl (Nat.le_of_ble_eq_true rfl) hl.1 hP hS dX3_span_7 rfl ?_
  have hJ27 : W p l e rm_m_span s m args below meth cd H locs 0 0 (MQ below (kp_Q D sz (none) (mw_W G (S_m_span c x y z) Z)) args s rm_m_span.cells rm_m_span.slots (kp_A sz)) (F0 m 27 ls [.long (if (F_m_isEnd x) = (0 : Int32) then (-mw_far) else F_m_rounded (mp_is c (z_t (1 : Int32))) x z (0 : Int32)), .ref (bM G)]) := by
    refine km_put7 (v := if (F_m_isEnd x) = (0 : Int32) then (-mw_far) else F_m_rounded (mp_is c (z_t (1 : Int32))) x z (0 : Int32)) (M' := B_m_span_1 c x y z) B hG hP hS rfl kw_274 dX3_span_27 (fun H locs hP hS => ?_)
    refine lv_aload_n hx hb dX3_span_30 rfl (lv_at hl 0 rfl) ?_
    refine lv_lload_n hx hb dX3_span_31 rfl (lv_at hl 2 rfl) ?_
    refine kp_callSR (rm := rm_m_isEnd) (As := [.long y]) (rest := [.ref (bM G)]) (r := some (.int (F_m_isEnd y))) (st1 := [.int (F_m_isEnd y), .ref (bM G)]) B (C_m_isEnd l D ty sz G Z hG (B_m_span_1 c x y z) y) kt_m_isEnd kw_266 kw_267 (by decide) ⟨rfl, rfl⟩ (by decide) rfl (Nat.le_of_ble_eq_true rfl) hl.1 hP hS dX3_span_32 rfl ?_
    have hJ52 : W p l e rm_m_span s m args below meth cd H locs 0 0 (MQ below (kp_Q D sz (none) (mw_W G (S_m_span c x y z) Z)) args s rm_m_span.cells rm_m_span.slots (kp_A sz)) (F0 m 52 ls [.long (if (F_m_isEnd y) = (0 : Int32) then mw_far else F_m_rounded (B_m_span_1 c x y z) y z (1 : Int32)), .ref (bM G)]) := by
      refine km_put8 (v := if (F_m_isEnd y) = (0 : Int32) then mw_far else F_m_rounded (B_m_span_1 c x y z) y z (1 : Int32)) (M' := B_m_span_2 c x y z) B hG hP hS rfl kw_275 dX3_span_52 (fun H locs hP hS => ?_)
      exact kp_retv B hP hS rfl dX3_span_55
    refine lv_if_eq (tgt := 49) hx hb dX3_span_35 (by decide) (fun q_1 => ?_) (fun q_1 => ?_)
    · refine lv_ldc2 (v := mw_far) hx hb hown (hw _ kw_253 rfl) dX3_span_49 ?_
      exact kp_jJ (by simp only [if_pos q_1]) hJ52
    · refine lv_aload_n hx hb dX3_span_38 rfl (lv_at hl 0 rfl) ?_
      refine lv_lload_n hx hb dX3_span_39 rfl (lv_at hl 2 rfl) ?_
      refine lv_lload hx hb dX3_span_40 (lv_at hl 3 rfl) ?_
      refine lv_iconst (v := (1 : Int32)) hx hb dX3_span_42 (by decide) ?_
      refine kp_callVR (rm := rm_m_rounded) (As := [.long y, .long z, .int (1 : Int32)]) (rest := [.ref (bM G)]) (r := some (.long (F_m_rounded (B_m_span_1 c x y z) y z (1 : Int32)))) (st1 := [.long (F_m_rounded (B_m_span_1 c x y z) y z (1 : Int32)), .ref (bM G)]) B (C_m_rounded l D ty sz G Z hG (B_m_span_1 c x y z) y z (1 : Int32) hzz) kt_m_rounded kw_271 kw_272 kw_273 (km_rc B hP) (by decide) ⟨rfl, rfl⟩ (by decide) rfl (Nat.le_of_ble_eq_true rfl) hl.1 hP hS dX3_span_43 rfl ?_
      refine lv_goto (tgt := 52) hx hb dX3_span_46 (by decide) ?_
      exact kp_jJ (by simp only [if_neg q_1]) hJ52
  refine lv_if_eq (tgt := 24) hx hb dX3_span_10 (by decide) (fun q_2 => ?_) (fun q_2 => ?_)
  · refine lv_ldc2 (v := (-mw_far)) hx hb hown (hw _ kw_263 rfl) dX3_span_24 ?_
    exact kp_jJ (by simp only [if_pos q_2]) hJ27
  · refine lv_aload_n hx hb dX3_span_13 rfl (lv_at hl 0 rfl) ?_
    refine lv_lload_n hx hb dX3_span_14 rfl (lv_at hl 1 rfl) ?_
    refine lv_lload hx hb dX3_span_15 (lv_at hl 3 rfl) ?_
    refine lv_iconst (v := (0 : Int32)) hx hb dX3_span_17 (by decide) ?_
    refine kp_callVR (rm := rm_m_rounded) (As := [.long x, .long z, .int (0 : Int32)]) (rest := [.ref (bM G)]) (r := some (.long (F_m_rounded (mp_is c (z_t (1 : Int32))) x z (0 : Int32)))) (st1 := [.long (F_m_rounded (mp_is c (z_t (1 : Int32))) x z (0 : Int32)), .ref (bM G)]) B (C_m_rounded l D ty sz G Z hG (mp_is c (z_t (1 : Int32))) x z (0 : Int32) hzz) kt_m_rounded kw_271 kw_272 kw_273 (km_rc B hP) (by decide) ⟨rfl, rfl⟩ (by decide) rfl (Nat.le_of_ble_eq_true rfl) hl.1 hP hS dX3_span_18 rfl ?_
    refine lv_goto (tgt := 27) hx hb dX3_span_21 (by decide) ?_
    exact kp_jJ (by simp only [if_neg q_2]) hJ27
def LS_m_product (x : Int64) (y : Int64) (z : Int64) (v : Int64) : Nat → mw_C → Int64 → Int64 → Int32 → mw_C
  | 0, c, a, b, i => c
  | n + 1, c, a, b, i => if (4 : Int32) ≤ i then S_m_span c a b ((1 : Int64) <<< ((F_m_fine c).toInt64 &&& 63)) else LS_m_product x y z v n c (if a ≤ (F_m_times (if (2 : Int32) ≤ i then y else x) (if (i - i / (2 : Int32) * (2 : Int32)) = (0 : Int32) then z else v)) then a else F_m_times (if (2 : Int32) ≤ i then y else x) (if (i - i / (2 : Int32) * (2 : Int32)) = (0 : Int32) then z else v)) (if (F_m_times (if (2 : Int32) ≤ i then y else x) (if (i - i / (2 : Int32) * (2 : Int32)) = (0 : Int32) then z else v)) ≤ b then b else F_m_times (if (2 : Int32) ≤ i then y else x) (if (i - i / (2 : Int32) * (2 : Int32)) = (0 : Int32) then z else v)) (i + (1 : Int32))
def S_m_product (c : mw_C) (x : Int64) (y : Int64) (z : Int64) (v : Int64) : mw_C :=
  LS_m_product x y z v 5 c mw_far (-mw_far) (0 : Int32)
def rm_m_product : Room := { frames := 3, cells := 0, slots := 0, locals := 81 }
set_option maxHeartbeats 4000000 in
set_option maxRecDepth 100000 in
theorem LP_m_product (l : Launch) (D : va_G) (ty : List (ClassId × FieldType)) (sz : Nat) (G : mw_G) (Z : va_W) (hG : mw_ok ty sz G Z) (x : Int64) (y : Int64) (z : Int64) (v : Int64) {p : Program} {e : Env} {s : State} {m : MethodId} {args : Array Value} {below : List Frame} {meth : Method} {cd : Code} (B : kp_B p l s m args meth cd yX3_product.cls cX3_product 16 none D ty sz) :
    ∀ (n : Nat) (c : mw_C) (a : Int64) (b : Int64) (i : Int32) (h1 : 0 ≤ i.toInt) (h2 : 5 ≤ i.toInt + n) (h3 : i.toInt ≤ 4), ∀ (H : Heap) (locs : List Loc) (ls : Array Slot), lv_has ls 16 [(0, .ref (bM G)), (1, .long x), (3, .long y), (5, .long z), (7, .long v), (9, .long a), (11, .long b), (13, .int i)] → va_P D vwCl (mw_W G c Z) H → va_S (kp_A sz) s.heap H locs → W p l e rm_m_product s m args below meth cd H locs 0 0 (MQ below (kp_Q D sz (none) (mw_W G (LS_m_product x y z v n c a b i) Z)) args s rm_m_product.cells rm_m_product.slots (kp_A sz)) (F0 m 13 ls []) := by
  obtain ⟨hx, hb, hml, hown, hlk, hr, hw, hE, hK, hsz⟩ := id B
  intro n
  induction n with
  | zero =>
    intro c a b i h1 h2 h3
    exact absurd h2 (by omega)
  | succ n ih =>
    intro c a b i h1 h2 h3 H locs ls hl hP hS
    refine lv_iload hx hb dX3_product_13 (lv_at hl 7 rfl) ?_
    refine lv_iconst (v := (4 : Int32)) hx hb dX3_product_15 (by decide) ?_
    refine lv_icmp_ge (tgt := 89) hx hb dX3_product_16 (by decide) (fun q_1 => ?_) (fun q_1 => ?_)
    · refine lv_aload_n hx hb dX3_product_89 rfl (lv_at hl 0 rfl) ?_
      refine lv_lload hx hb dX3_product_90 (lv_at hl 5 rfl) ?_
      refine lv_lload hx hb dX3_product_92 (lv_at hl 6 rfl) ?_
      refine lv_lconst (v := (1 : Int64)) hx hb dX3_product_94 (by decide) ?_
      refine lv_aload_n hx hb dX3_product_95 rfl (lv_at hl 0 rfl) ?_
      refine kp_callVR (rm := rm_m_fine) (As := []) (rest := [.long (1 : Int64), .long b, .long a, .ref (bM G)]) (r := some (.int (F_m_fine c))) (st1 := [.int (F_m_fine c), .long (1 : Int64), .long b, .long a, .ref (bM G)]) B (C_m_fine l D ty sz G Z hG c) kt_m_fine kw_282 kw_283 kw_284 (km_rc B hP) (by decide) ⟨rfl, rfl⟩ (by decide) rfl (Nat.le_of_ble_eq_true rfl) hl.1 hP hS dX3_product_96 rfl ?_
      refine lv_lshl (v := (1 : Int64) <<< ((F_m_fine c).toInt64 &&& 63)) hx hb dX3_product_99 rfl ?_
      refine kp_callV (rm := rm_m_span) (As := [.long a, .long b, .long ((1 : Int64) <<< ((F_m_fine c).toInt64 &&& 63))]) (rest := []) (r := none) (st1 := []) (ws' := mw_W G (S_m_span c a b ((1 : Int64) <<< ((F_m_fine c).toInt64 &&& 63))) Z) B (C_m_span l D ty sz G Z hG c a b ((1 : Int64) <<< ((F_m_fine c).toInt64 &&& 63)) (km_shl1 _)) kt_m_span kw_287 kw_288 kw_289 (km_rc B hP) (by decide) rfl rfl (by decide) rfl (Nat.le_of_ble_eq_true rfl) hl.1 hP hS dX3_product_100 rfl (fun H locs hP hS => ?_)
      exact kp_retv B (by simp only [LS_m_product, if_pos q_1]; exact hP) hS rfl dX3_product_103
    · refine lv_iload hx hb dX3_product_19 (lv_at hl 7 rfl) ?_
      refine lv_iconst (v := (2 : Int32)) hx hb dX3_product_21 (by decide) ?_
      have hJ30 : W p l e rm_m_product s m args below meth cd H locs 0 0 (MQ below (kp_Q D sz (none) (mw_W G (LS_m_product x y z v (n + 1) c a b i) Z)) args s rm_m_product.cells rm_m_product.slots (kp_A sz)) (F0 m 30 ls [.long (if (2 : Int32) ≤ i then y else x)]) := by
        refine lv_iload hx hb dX3_product_30 (lv_at hl 7 rfl) ?_
        refine lv_iconst (v := (2 : Int32)) hx hb dX3_product_32 (by decide) ?_
        refine lv_irem hx hb dX3_product_33 (by decide) ?_
        have hJ44 : W p l e rm_m_product s m args below meth cd H locs 0 0 (MQ below (kp_Q D sz (none) (mw_W G (LS_m_product x y z v (n + 1) c a b i) Z)) args s rm_m_product.cells rm_m_product.slots (kp_A sz)) (F0 m 44 ls [.long (if (i - i / (2 : Int32) * (2 : Int32)) = (0 : Int32) then z else v), .long (if (2 : Int32) ≤ i then y else x)]) := by
          refine kp_callSR (rm := rm_m_times) (As := [.long (if (2 : Int32) ≤ i then y else x), .long (if (i - i / (2 : Int32) * (2 : Int32)) = (0 : Int32) then z else v)]) (rest := []) (r := some (.long (F_m_times (if (2 : Int32) ≤ i then y else x) (if (i - i / (2 : Int32) * (2 : Int32)) = (0 : Int32) then z else v)))) (st1 := [.long (F_m_times (if (2 : Int32) ≤ i then y else x) (if (i - i / (2 : Int32) * (2 : Int32)) = (0 : Int32) then z else v))]) B (C_m_times l D ty sz G Z hG c (if (2 : Int32) ≤ i then y else x) (if (i - i / (2 : Int32) * (2 : Int32)) = (0 : Int32) then z else v)) kt_m_times kw_278 kw_279 (by decide) ⟨rfl, rfl⟩ (by decide) rfl (Nat.le_of_ble_eq_true rfl) hl.1 hP hS dX3_product_44 rfl ?_
          refine lv_lstore (lv' := [(14, .long (F_m_times (if (2 : Int32) ≤ i then y else x) (if (i - i / (2 : Int32) * (2 : Int32)) = (0 : Int32) then z else v))), (0, .ref (bM G)), (1, .long x), (3, .long y), (5, .long z), (7, .long v), (9, .long a), (11, .long b), (13, .int i)]) hx hb dX3_product_47 hl (by decide) rfl (fun ls hl => ?_)
          refine lv_lload hx hb dX3_product_49 (lv_at hl 0 rfl) ?_
          refine lv_lload hx hb dX3_product_51 (lv_at hl 6 rfl) ?_
          have hJ64 : W p l e rm_m_product s m args below meth cd H locs 0 0 (MQ below (kp_Q D sz (none) (mw_W G (LS_m_product x y z v (n + 1) c a b i) Z)) args s rm_m_product.cells rm_m_product.slots (kp_A sz)) (F0 m 64 ls [.long (if a ≤ (F_m_times (if (2 : Int32) ≤ i then y else x) (if (i - i / (2 : Int32) * (2 : Int32)) = (0 : Int32) then z else v)) then a else F_m_times (if (2 : Int32) ≤ i then y else x) (if (i - i / (2 : Int32) * (2 : Int32)) = (0 : Int32) then z else v))]) := by
            refine lv_lstore (lv' := [(9, .long (if a ≤ (F_m_times (if (2 : Int32) ≤ i then y else x) (if (i - i / (2 : Int32) * (2 : Int32)) = (0 : Int32) then z else v)) then a else F_m_times (if (2 : Int32) ≤ i then y else x) (if (i - i / (2 : Int32) * (2 : Int32)) = (0 : Int32) then z else v))), (14, .long (F_m_times (if (2 : Int32) ≤ i then y else x) (if (i - i / (2 : Int32) * (2 : Int32)) = (0 : Int32) then z else v))), (0, .ref (bM G)), (1, .long x), (3, .long y), (5, .long z), (7, .long v), (11, .long b), (13, .int i)]) hx hb dX3_product_64 hl (by decide) rfl (fun ls hl => ?_)
            refine lv_lload hx hb dX3_product_66 (lv_at hl 1 rfl) ?_
            refine lv_lload hx hb dX3_product_68 (lv_at hl 7 rfl) ?_
            have hJ81 : W p l e rm_m_product s m args below meth cd H locs 0 0 (MQ below (kp_Q D sz (none) (mw_W G (LS_m_product x y z v (n + 1) c a b i) Z)) args s rm_m_product.cells rm_m_product.slots (kp_A sz)) (F0 m 81 ls [.long (if (F_m_times (if (2 : Int32) ≤ i then y else x) (if (i - i / (2 : Int32) * (2 : Int32)) = (0 : Int32) then z else v)) ≤ b then b else F_m_times (if (2 : Int32) ≤ i then y else x) (if (i - i / (2 : Int32) * (2 : Int32)) = (0 : Int32) then z else v))]) := by
              refine lv_lstore (lv' := [(11, .long (if (F_m_times (if (2 : Int32) ≤ i then y else x) (if (i - i / (2 : Int32) * (2 : Int32)) = (0 : Int32) then z else v)) ≤ b then b else F_m_times (if (2 : Int32) ≤ i then y else x) (if (i - i / (2 : Int32) * (2 : Int32)) = (0 : Int32) then z else v))), (9, .long (if a ≤ (F_m_times (if (2 : Int32) ≤ i then y else x) (if (i - i / (2 : Int32) * (2 : Int32)) = (0 : Int32) then z else v)) then a else F_m_times (if (2 : Int32) ≤ i then y else x) (if (i - i / (2 : Int32) * (2 : Int32)) = (0 : Int32) then z else v))), (14, .long (F_m_times (if (2 : Int32) ≤ i then y else x) (if (i - i / (2 : Int32) * (2 : Int32)) = (0 : Int32) then z else v))), (0, .ref (bM G)), (1, .long x), (3, .long y), (5, .long z), (7, .long v), (13, .int i)]) hx hb dX3_product_81 hl (by decide) rfl (fun ls hl => ?_)
              refine lv_iinc (v := i + (1 : Int32)) (lv' := [(13, .int (i + (1 : Int32))), (11, .long (if (F_m_times (if (2 : Int32) ≤ i then y else x) (if (i - i / (2 : Int32) * (2 : Int32)) = (0 : Int32) then z else v)) ≤ b then b else F_m_times (if (2 : Int32) ≤ i then y else x) (if (i - i / (2 : Int32) * (2 : Int32)) = (0 : Int32) then z else v))), (9, .long (if a ≤ (F_m_times (if (2 : Int32) ≤ i then y else x) (if (i - i / (2 : Int32) * (2 : Int32)) = (0 : Int32) then z else v)) then a else F_m_times (if (2 : Int32) ≤ i then y else x) (if (i - i / (2 : Int32) * (2 : Int32)) = (0 : Int32) then z else v))), (14, .long (F_m_times (if (2 : Int32) ≤ i then y else x) (if (i - i / (2 : Int32) * (2 : Int32)) = (0 : Int32) then z else v))), (0, .ref (bM G)), (1, .long x), (3, .long y), (5, .long z), (7, .long v)]) hx hb dX3_product_83 hl (k := 8) rfl rfl (by decide) rfl (fun ls hl => ?_)
              refine lv_goto (tgt := 13) hx hb dX3_product_86 (by decide) ?_
              rw [show LS_m_product x y z v (n + 1) c a b i = LS_m_product x y z v n c (if a ≤ (F_m_times (if (2 : Int32) ≤ i then y else x) (if (i - i / (2 : Int32) * (2 : Int32)) = (0 : Int32) then z else v)) then a else F_m_times (if (2 : Int32) ≤ i then y else x) (if (i - i / (2 : Int32) * (2 : Int32)) = (0 : Int32) then z else v)) (if (F_m_times (if (2 : Int32) ≤ i then y else x) (if (i - i / (2 : Int32) * (2 : Int32)) = (0 : Int32) then z else v)) ≤ b then b else F_m_times (if (2 : Int32) ≤ i then y else x) (if (i - i / (2 : Int32) * (2 : Int32)) = (0 : Int32) then z else v)) (i + (1 : Int32)) from by simp only [LS_m_product, if_neg q_1]]
              exact ih c (if a ≤ (F_m_times (if (2 : Int32) ≤ i then y else x) (if (i - i / (2 : Int32) * (2 : Int32)) = (0 : Int32) then z else v)) then a else F_m_times (if (2 : Int32) ≤ i then y else x) (if (i - i / (2 : Int32) * (2 : Int32)) = (0 : Int32) then z else v)) (if (F_m_times (if (2 : Int32) ≤ i then y else x) (if (i - i / (2 : Int32) * (2 : Int32)) = (0 : Int32) then z else v)) ≤ b then b else F_m_times (if (2 : Int32) ≤ i then y else x) (if (i - i / (2 : Int32) * (2 : Int32)) = (0 : Int32) then z else v)) (i + (1 : Int32)) (ki_up4 h1 h3 q_1 h2).1 (ki_up4 h1 h3 q_1 h2).2.1 (ki_up4 h1 h3 q_1 h2).2.2 _ _ ls (lv_sub hl [4, 5, 6, 7, 8, 2, 1, 0] rfl) hP hS
            refine kp_lle (tgt := 79) hx hb dX3_product_70 dX3_product_71 (by decide) (fun q_2 => ?_) (fun q_2 => ?_)
            · refine lv_lload hx hb dX3_product_79 (lv_at hl 7 rfl) ?_
              exact kp_jJ (by simp only [if_pos q_2]) hJ81
            · refine lv_lload hx hb dX3_product_74 (lv_at hl 1 rfl) ?_
              refine lv_goto (tgt := 81) hx hb dX3_product_76 (by decide) ?_
              exact kp_jJ (by simp only [if_neg q_2]) hJ81
          refine kp_lge (tgt := 62) hx hb dX3_product_53 dX3_product_54 (by decide) (fun q_3 => ?_) (fun q_3 => ?_)
          · refine lv_lload hx hb dX3_product_62 (lv_at hl 6 rfl) ?_
            exact kp_jJ (by simp only [if_pos q_3]) hJ64
          · refine lv_lload hx hb dX3_product_57 (lv_at hl 0 rfl) ?_
            refine lv_goto (tgt := 64) hx hb dX3_product_59 (by decide) ?_
            exact kp_jJ (by simp only [if_neg q_3]) hJ64
        refine lv_if_ne (tgt := 42) hx hb dX3_product_34 (by decide) (fun q_4 => ?_) (fun q_4 => ?_)
        · refine lv_lload hx hb dX3_product_42 (lv_at hl 4 rfl) ?_
          exact kp_jJ (by simp only [if_neg q_4]) hJ44
        · refine lv_lload hx hb dX3_product_37 (lv_at hl 3 rfl) ?_
          refine lv_goto (tgt := 44) hx hb dX3_product_39 (by decide) ?_
          exact kp_jJ (by simp only [if_pos q_4]) hJ44
      refine lv_icmp_ge (tgt := 29) hx hb dX3_product_22 (by decide) (fun q_5 => ?_) (fun q_5 => ?_)
      · refine lv_lload_n hx hb dX3_product_29 rfl (lv_at hl 2 rfl) ?_
        exact kp_jJ (by simp only [if_pos q_5]) hJ30
      · refine lv_lload_n hx hb dX3_product_25 rfl (lv_at hl 1 rfl) ?_
        refine lv_goto (tgt := 30) hx hb dX3_product_26 (by decide) ?_
        exact kp_jJ (by simp only [if_neg q_5]) hJ30
set_option maxHeartbeats 4000000 in
set_option maxRecDepth 100000 in
theorem C_m_product (l : Launch) (D : va_G) (ty : List (ClassId × FieldType)) (sz : Nat) (G : mw_G) (Z : va_W) (hG : mw_ok ty sz G Z) (c : mw_C) (x : Int64) (y : Int64) (z : Int64) (v : Int64) : kp_M l yX3_product cX3_product 16 none rm_m_product D ty sz [.ref (bM G), .long x, .long y, .long z, .long v] (mw_W G c Z) (none) (mw_W G (S_m_product c x y z v) Z) := by
  refine kp_body (by decide) (Nat.le_of_ble_eq_true rfl) rfl ?_
  intro p e s m args below meth cd ls B hin hl hP hS
  obtain ⟨hx, hb, hml, hown, hlk, hr, hw, hE, hK, hsz⟩ := id B
  have hl : lv_has ls 16 [(0, .ref (bM G)), (1, .long x), (3, .long y), (5, .long z), (7, .long v)] := hl
  refine lv_ldc2 (v := mw_far) hx hb hown (hw _ kw_253 rfl) dX3_product_0 ?_
  refine lv_lstore (lv' := [(9, .long mw_far), (0, .ref (bM G)), (1, .long x), (3, .long y), (5, .long z), (7, .long v)]) hx hb dX3_product_3 hl (by decide) rfl (fun ls hl => ?_)
  refine lv_ldc2 (v := (-mw_far)) hx hb hown (hw _ kw_263 rfl) dX3_product_5 ?_
  refine lv_lstore (lv' := [(11, .long (-mw_far)), (9, .long mw_far), (0, .ref (bM G)), (1, .long x), (3, .long y), (5, .long z), (7, .long v)]) hx hb dX3_product_8 hl (by decide) rfl (fun ls hl => ?_)
  refine lv_iconst (v := (0 : Int32)) hx hb dX3_product_10 (by decide) ?_
  refine lv_istore (lv' := [(13, .int (0 : Int32)), (11, .long (-mw_far)), (9, .long mw_far), (0, .ref (bM G)), (1, .long x), (3, .long y), (5, .long z), (7, .long v)]) hx hb dX3_product_11 hl (by decide) rfl (fun ls hl => ?_)
  exact LP_m_product l D ty sz G Z hG x y z v B 5 c mw_far (-mw_far) (0 : Int32) (by decide) (by decide) (by decide) _ _ ls (lv_sub hl [3, 4, 5, 6, 7, 2, 1, 0] rfl) hP hS
def F_m_quotient (c : mw_C) (x : Int64) (y : Int64) (z : Int32) : Int64 :=
  if x = (0 : Int64) then (0 : Int64) else (if (F_m_isEnd x) = (0 : Int32) then (if (0 : Int64) ≤ x then mw_far else (-mw_far)) else (if (0 : Int64) < y then (if (F_m_isEnd y) = (0 : Int32) then (0 : Int64) else F_m_rounded c (x <<< ((F_m_fine c).toInt64 &&& 63)) y z) else (if (0 : Int64) ≤ x then mw_far else (-mw_far))))
def rm_m_quotient : Room := { frames := 2, cells := 0, slots := 0, locals := 55 }
set_option maxHeartbeats 4000000 in
set_option maxRecDepth 100000 in
theorem C_m_quotient (l : Launch) (D : va_G) (ty : List (ClassId × FieldType)) (sz : Nat) (G : mw_G) (Z : va_W) (hG : mw_ok ty sz G Z) (c : mw_C) (x : Int64) (y : Int64) (z : Int32) : kp_R l yX3_quotient cX3_quotient 6 (some .long) rm_m_quotient D ty sz [.ref (bM G), .long x, .long y, .int z] (mw_W G c Z) (some (.long (F_m_quotient c x y z))) := by
  refine kp_bodyR (by decide) (Nat.le_of_ble_eq_true rfl) rfl ?_
  intro p e s m args below meth cd ls B hl hP hS
  obtain ⟨hx, hb, hml, hown, hlk, hr, hw, hE, hK, hsz⟩ := id B
  have hl : lv_has ls 6 [(0, .ref (bM G)), (1, .long x), (3, .long y), (5, .int z)] := hl
  refine lv_lload_n hx hb dX3_quotient_0 rfl (lv_at hl 1 rfl) ?_
  refine lv_lconst (v := (0 : Int64)) hx hb dX3_quotient_1 (by decide) ?_
  refine kp_lne (tgt := 8) hx hb dX3_quotient_2 dX3_quotient_3 (by decide) (fun q_1 => ?_) (fun q_1 => ?_)
  · refine lv_lload_n hx hb dX3_quotient_8 rfl (lv_at hl 1 rfl) ?_
    refine kp_callSR (rm := rm_m_isEnd) (As := [.long x]) (rest := []) (r := some (.int (F_m_isEnd x))) (st1 := [.int (F_m_isEnd x)]) B (C_m_isEnd l D ty sz G Z hG c x) kt_m_isEnd kw_266 kw_267 (by decide) ⟨rfl, rfl⟩ (by decide) rfl (Nat.le_of_ble_eq_true rfl) hl.1 hP hS dX3_quotient_9 rfl ?_
    refine lv_if_eq (tgt := 21) hx hb dX3_quotient_12 (by decide) (fun q_2 => ?_) (fun q_2 => ?_)
    · refine lv_lload_n hx hb dX3_quotient_21 rfl (lv_at hl 1 rfl) ?_
      refine lv_lconst (v := (0 : Int64)) hx hb dX3_quotient_22 (by decide) ?_
      refine kp_lge (tgt := 33) hx hb dX3_quotient_23 dX3_quotient_24 (by decide) (fun q_3 => ?_) (fun q_3 => ?_)
      · refine lv_ldc2 (v := mw_far) hx hb hown (hw _ kw_253 rfl) dX3_quotient_33 ?_
        exact kp_retlR B (by simp only [F_m_quotient, if_neg q_1, if_pos q_2, if_pos q_3]) dX3_quotient_36
      · refine lv_ldc2 (v := (-mw_far)) hx hb hown (hw _ kw_263 rfl) dX3_quotient_27 ?_
        refine lv_goto (tgt := 36) hx hb dX3_quotient_30 (by decide) ?_
        exact kp_retlR B (by simp only [F_m_quotient, if_neg q_1, if_pos q_2, if_neg q_3]) dX3_quotient_36
    · refine lv_lload_n hx hb dX3_quotient_15 rfl (lv_at hl 2 rfl) ?_
      refine lv_lconst (v := (0 : Int64)) hx hb dX3_quotient_16 (by decide) ?_
      refine kp_lgt (tgt := 37) hx hb dX3_quotient_17 dX3_quotient_18 (by decide) (fun q_4 => ?_) (fun q_4 => ?_)
      · refine lv_lload_n hx hb dX3_quotient_37 rfl (lv_at hl 2 rfl) ?_
        refine kp_callSR (rm := rm_m_isEnd) (As := [.long y]) (rest := []) (r := some (.int (F_m_isEnd y))) (st1 := [.int (F_m_isEnd y)]) B (C_m_isEnd l D ty sz G Z hG c y) kt_m_isEnd kw_266 kw_267 (by decide) ⟨rfl, rfl⟩ (by decide) rfl (Nat.le_of_ble_eq_true rfl) hl.1 hP hS dX3_quotient_38 rfl ?_
        refine lv_if_ne (tgt := 46) hx hb dX3_quotient_41 (by decide) (fun q_5 => ?_) (fun q_5 => ?_)
        · refine lv_aload_n hx hb dX3_quotient_46 rfl (lv_at hl 0 rfl) ?_
          refine lv_lload_n hx hb dX3_quotient_47 rfl (lv_at hl 1 rfl) ?_
          refine lv_aload_n hx hb dX3_quotient_48 rfl (lv_at hl 0 rfl) ?_
          refine kp_callVR (rm := rm_m_fine) (As := []) (rest := [.long x, .ref (bM G)]) (r := some (.int (F_m_fine c))) (st1 := [.int (F_m_fine c), .long x, .ref (bM G)]) B (C_m_fine l D ty sz G Z hG c) kt_m_fine kw_282 kw_283 kw_284 (km_rc B hP) (by decide) ⟨rfl, rfl⟩ (by decide) rfl (Nat.le_of_ble_eq_true rfl) hl.1 hP hS dX3_quotient_49 rfl ?_
          refine lv_lshl (v := x <<< ((F_m_fine c).toInt64 &&& 63)) hx hb dX3_quotient_52 rfl ?_
          refine lv_lload_n hx hb dX3_quotient_53 rfl (lv_at hl 2 rfl) ?_
          refine lv_iload hx hb dX3_quotient_54 (lv_at hl 3 rfl) ?_
          refine kp_callVR (rm := rm_m_rounded) (As := [.long (x <<< ((F_m_fine c).toInt64 &&& 63)), .long y, .int z]) (rest := []) (r := some (.long (F_m_rounded c (x <<< ((F_m_fine c).toInt64 &&& 63)) y z))) (st1 := [.long (F_m_rounded c (x <<< ((F_m_fine c).toInt64 &&& 63)) y z)]) B (C_m_rounded l D ty sz G Z hG c (x <<< ((F_m_fine c).toInt64 &&& 63)) y z (ki_gt0 q_4)) kt_m_rounded kw_271 kw_272 kw_273 (km_rc B hP) (by decide) ⟨rfl, rfl⟩ (by decide) rfl (Nat.le_of_ble_eq_true rfl) hl.1 hP hS dX3_quotient_56 rfl ?_
          exact kp_retlR B (by simp only [F_m_quotient, if_neg q_1, if_neg q_2, if_pos q_4, if_neg q_5]) dX3_quotient_59
        · refine lv_lconst (v := (0 : Int64)) hx hb dX3_quotient_44 (by decide) ?_
          exact kp_retlR B (by simp only [F_m_quotient, if_neg q_1, if_neg q_2, if_pos q_4, if_pos q_5]) dX3_quotient_45
      · refine lv_lload_n hx hb dX3_quotient_21 rfl (lv_at hl 1 rfl) ?_
        refine lv_lconst (v := (0 : Int64)) hx hb dX3_quotient_22 (by decide) ?_
        refine kp_lge (tgt := 33) hx hb dX3_quotient_23 dX3_quotient_24 (by decide) (fun q_6 => ?_) (fun q_6 => ?_)
        · refine lv_ldc2 (v := mw_far) hx hb hown (hw _ kw_253 rfl) dX3_quotient_33 ?_
          exact kp_retlR B (by simp only [F_m_quotient, if_neg q_1, if_neg q_2, if_neg q_4, if_pos q_6]) dX3_quotient_36
        · refine lv_ldc2 (v := (-mw_far)) hx hb hown (hw _ kw_263 rfl) dX3_quotient_27 ?_
          refine lv_goto (tgt := 36) hx hb dX3_quotient_30 (by decide) ?_
          exact kp_retlR B (by simp only [F_m_quotient, if_neg q_1, if_neg q_2, if_neg q_4, if_neg q_6]) dX3_quotient_36
  · refine lv_lconst (v := (0 : Int64)) hx hb dX3_quotient_6 (by decide) ?_
    exact kp_retlR B (by simp only [F_m_quotient, if_pos q_1]) dX3_quotient_7
def B_m_ratio_1 (c : mw_C) (x : Int64) (y : Int64) (z : Int64) (v : Int64) : mw_C := mp_isPart c (z_t (if v ≤ (0 : Int64) then (0 : Int32) else (1 : Int32)))
def B_m_ratio_2 (c : mw_C) (x : Int64) (y : Int64) (z : Int64) (v : Int64) : mw_C := mp_partFrom (B_m_ratio_1 c x y z v) (if (0 : Int64) ≤ x then F_m_quotient (B_m_ratio_1 c x y z v) x v (0 : Int32) else F_m_quotient (B_m_ratio_1 c x y z v) x z (0 : Int32))
def B_m_ratio_3 (c : mw_C) (x : Int64) (y : Int64) (z : Int64) (v : Int64) : mw_C := mp_partTo (B_m_ratio_2 c x y z v) (if y ≤ (0 : Int64) then F_m_quotient (B_m_ratio_2 c x y z v) y v (1 : Int32) else F_m_quotient (B_m_ratio_2 c x y z v) y z (1 : Int32))
def S_m_ratio (c : mw_C) (x : Int64) (y : Int64) (z : Int64) (v : Int64) : mw_C :=
  if (z_i ((B_m_ratio_1 c x y z v).2.2.2.1)) = (0 : Int32) then B_m_ratio_1 c x y z v else B_m_ratio_3 c x y z v
def rm_m_ratio : Room := { frames := 3, cells := 0, slots := 0, locals := 80 }
set_option maxHeartbeats 4000000 in
set_option maxRecDepth 100000 in
theorem C_m_ratio (l : Launch) (D : va_G) (ty : List (ClassId × FieldType)) (sz : Nat) (G : mw_G) (Z : va_W) (hG : mw_ok ty sz G Z) (c : mw_C) (x : Int64) (y : Int64) (z : Int64) (v : Int64) : kp_M l yX3_ratio cX3_ratio 9 none rm_m_ratio D ty sz [.ref (bM G), .long x, .long y, .long z, .long v] (mw_W G c Z) (none) (mw_W G (S_m_ratio c x y z v) Z) := by
  refine kp_body (by decide) (Nat.le_of_ble_eq_true rfl) rfl ?_
  intro p e s m args below meth cd ls B hin hl hP hS
  obtain ⟨hx, hb, hml, hown, hlk, hr, hw, hE, hK, hsz⟩ := id B
  have hl : lv_has ls 9 [(0, .ref (bM G)), (1, .long x), (3, .long y), (5, .long z), (7, .long v)] := hl
  refine lv_aload_n hx hb dX3_ratio_0 rfl (lv_at hl 0 rfl) ?_
  refine lv_lload hx hb dX3_ratio_1 (lv_at hl 4 rfl) ?_
  refine lv_lconst (v := (0 : Int64)) hx hb dX3_ratio_3 (by decide) ?_
  have hJ13 : W p l e rm_m_ratio s m args below meth cd s.heap [] 0 0 (MQ below (kp_Q D sz (none) (mw_W G (S_m_ratio c x y z v) Z)) args s rm_m_ratio.cells rm_m_ratio.slots (kp_A sz)) (F0 m 13 ls [.int (if v ≤ (0 : Int64) then (0 : Int32) else (1 : Int32)), .ref (bM G)]) := by
    refine km_put9 (v := if v ≤ (0 : Int64) then (0 : Int32) else (1 : Int32)) (M' := B_m_ratio_1 c x y z v) B hG hP hS (z_ite01 (Or.inl rfl) (Or.inr rfl)) rfl kw_290 dX3_ratio_13 (fun H locs hP hS => ?_)
    refine lv_aload_n hx hb dX3_ratio_16 rfl (lv_at hl 0 rfl) ?_
    refine km_get (j := 9) (v := .int (z_i ((B_m_ratio_1 c x y z v).2.2.2.1))) B hP rfl (by decide) kw_290 dX3_ratio_17 ?_
    refine lv_if_ne (tgt := 24) hx hb dX3_ratio_20 (by decide) (fun q_1 => ?_) (fun q_1 => ?_)
    · refine lv_aload_n hx hb dX3_ratio_24 rfl (lv_at hl 0 rfl) ?_
      refine lv_lload_n hx hb dX3_ratio_25 rfl (lv_at hl 1 rfl) ?_
      refine lv_lconst (v := (0 : Int64)) hx hb dX3_ratio_26 (by decide) ?_
      have hJ50 : W p l e rm_m_ratio s m args below meth cd H locs 0 0 (MQ below (kp_Q D sz (none) (mw_W G (S_m_ratio c x y z v) Z)) args s rm_m_ratio.cells rm_m_ratio.slots (kp_A sz)) (F0 m 50 ls [.long (if (0 : Int64) ≤ x then F_m_quotient (B_m_ratio_1 c x y z v) x v (0 : Int32) else F_m_quotient (B_m_ratio_1 c x y z v) x z (0 : Int32)), .ref (bM G)]) := by
        refine km_put10 (v := if (0 : Int64) ≤ x then F_m_quotient (B_m_ratio_1 c x y z v) x v (0 : Int32) else F_m_quotient (B_m_ratio_1 c x y z v) x z (0 : Int32)) (M' := B_m_ratio_2 c x y z v) B hG hP hS rfl kw_296 dX3_ratio_50 (fun H locs hP hS => ?_)
        refine lv_aload_n hx hb dX3_ratio_53 rfl (lv_at hl 0 rfl) ?_
        refine lv_lload_n hx hb dX3_ratio_54 rfl (lv_at hl 2 rfl) ?_
        refine lv_lconst (v := (0 : Int64)) hx hb dX3_ratio_55 (by decide) ?_
        have hJ79 : W p l e rm_m_ratio s m args below meth cd H locs 0 0 (MQ below (kp_Q D sz (none) (mw_W G (S_m_ratio c x y z v) Z)) args s rm_m_ratio.cells rm_m_ratio.slots (kp_A sz)) (F0 m 79 ls [.long (if y ≤ (0 : Int64) then F_m_quotient (B_m_ratio_2 c x y z v) y v (1 : Int32) else F_m_quotient (B_m_ratio_2 c x y z v) y z (1 : Int32)), .ref (bM G)]) := by
          refine km_put11 (v := if y ≤ (0 : Int64) then F_m_quotient (B_m_ratio_2 c x y z v) y v (1 : Int32) else F_m_quotient (B_m_ratio_2 c x y z v) y z (1 : Int32)) (M' := B_m_ratio_3 c x y z v) B hG hP hS rfl kw_297 dX3_ratio_79 (fun H locs hP hS => ?_)
          exact kp_retv B (by simp only [S_m_ratio, if_neg q_1]; exact hP) hS rfl dX3_ratio_82
        refine kp_lle (tgt := 71) hx hb dX3_ratio_56 dX3_ratio_57 (by decide) (fun q_2 => ?_) (fun q_2 => ?_)
        · refine lv_aload_n hx hb dX3_ratio_71 rfl (lv_at hl 0 rfl) ?_
          refine lv_lload_n hx hb dX3_ratio_72 rfl (lv_at hl 2 rfl) ?_
          refine lv_lload hx hb dX3_ratio_73 (lv_at hl 4 rfl) ?_
          refine lv_iconst (v := (1 : Int32)) hx hb dX3_ratio_75 (by decide) ?_
          refine kp_callVR (rm := rm_m_quotient) (As := [.long y, .long v, .int (1 : Int32)]) (rest := [.ref (bM G)]) (r := some (.long (F_m_quotient (B_m_ratio_2 c x y z v) y v (1 : Int32)))) (st1 := [.long (F_m_quotient (B_m_ratio_2 c x y z v) y v (1 : Int32)), .ref (bM G)]) B (C_m_quotient l D ty sz G Z hG (B_m_ratio_2 c x y z v) y v (1 : Int32)) kt_m_quotient kw_293 kw_294 kw_295 (km_rc B hP) (by decide) ⟨rfl, rfl⟩ (by decide) rfl (Nat.le_of_ble_eq_true rfl) hl.1 hP hS dX3_ratio_76 rfl ?_
          exact kp_jJ (by simp only [if_pos q_2]) hJ79
        · refine lv_aload_n hx hb dX3_ratio_60 rfl (lv_at hl 0 rfl) ?_
          refine lv_lload_n hx hb dX3_ratio_61 rfl (lv_at hl 2 rfl) ?_
          refine lv_lload hx hb dX3_ratio_62 (lv_at hl 3 rfl) ?_
          refine lv_iconst (v := (1 : Int32)) hx hb dX3_ratio_64 (by decide) ?_
          refine kp_callVR (rm := rm_m_quotient) (As := [.long y, .long z, .int (1 : Int32)]) (rest := [.ref (bM G)]) (r := some (.long (F_m_quotient (B_m_ratio_2 c x y z v) y z (1 : Int32)))) (st1 := [.long (F_m_quotient (B_m_ratio_2 c x y z v) y z (1 : Int32)), .ref (bM G)]) B (C_m_quotient l D ty sz G Z hG (B_m_ratio_2 c x y z v) y z (1 : Int32)) kt_m_quotient kw_293 kw_294 kw_295 (km_rc B hP) (by decide) ⟨rfl, rfl⟩ (by decide) rfl (Nat.le_of_ble_eq_true rfl) hl.1 hP hS dX3_ratio_65 rfl ?_
          refine lv_goto (tgt := 79) hx hb dX3_ratio_68 (by decide) ?_
          exact kp_jJ (by simp only [if_neg q_2]) hJ79
      refine kp_lge (tgt := 42) hx hb dX3_ratio_27 dX3_ratio_28 (by decide) (fun q_3 => ?_) (fun q_3 => ?_)
      · refine lv_aload_n hx hb dX3_ratio_42 rfl (lv_at hl 0 rfl) ?_
        refine lv_lload_n hx hb dX3_ratio_43 rfl (lv_at hl 1 rfl) ?_
        refine lv_lload hx hb dX3_ratio_44 (lv_at hl 4 rfl) ?_
        refine lv_iconst (v := (0 : Int32)) hx hb dX3_ratio_46 (by decide) ?_
        refine kp_callVR (rm := rm_m_quotient) (As := [.long x, .long v, .int (0 : Int32)]) (rest := [.ref (bM G)]) (r := some (.long (F_m_quotient (B_m_ratio_1 c x y z v) x v (0 : Int32)))) (st1 := [.long (F_m_quotient (B_m_ratio_1 c x y z v) x v (0 : Int32)), .ref (bM G)]) B (C_m_quotient l D ty sz G Z hG (B_m_ratio_1 c x y z v) x v (0 : Int32)) kt_m_quotient kw_293 kw_294 kw_295 (km_rc B hP) (by decide) ⟨rfl, rfl⟩ (by decide) rfl (Nat.le_of_ble_eq_true rfl) hl.1 hP hS dX3_ratio_47 rfl ?_
        exact kp_jJ (by simp only [if_pos q_3]) hJ50
      · refine lv_aload_n hx hb dX3_ratio_31 rfl (lv_at hl 0 rfl) ?_
        refine lv_lload_n hx hb dX3_ratio_32 rfl (lv_at hl 1 rfl) ?_
        refine lv_lload hx hb dX3_ratio_33 (lv_at hl 3 rfl) ?_
        refine lv_iconst (v := (0 : Int32)) hx hb dX3_ratio_35 (by decide) ?_
        refine kp_callVR (rm := rm_m_quotient) (As := [.long x, .long z, .int (0 : Int32)]) (rest := [.ref (bM G)]) (r := some (.long (F_m_quotient (B_m_ratio_1 c x y z v) x z (0 : Int32)))) (st1 := [.long (F_m_quotient (B_m_ratio_1 c x y z v) x z (0 : Int32)), .ref (bM G)]) B (C_m_quotient l D ty sz G Z hG (B_m_ratio_1 c x y z v) x z (0 : Int32)) kt_m_quotient kw_293 kw_294 kw_295 (km_rc B hP) (by decide) ⟨rfl, rfl⟩ (by decide) rfl (Nat.le_of_ble_eq_true rfl) hl.1 hP hS dX3_ratio_36 rfl ?_
        refine lv_goto (tgt := 50) hx hb dX3_ratio_39 (by decide) ?_
        exact kp_jJ (by simp only [if_neg q_3]) hJ50
    · exact kp_retv B (by simp only [S_m_ratio, if_pos q_1]; exact hP) hS rfl dX3_ratio_23
  refine kp_lle (tgt := 12) hx hb dX3_ratio_4 dX3_ratio_5 (by decide) (fun q_4 => ?_) (fun q_4 => ?_)
  · refine lv_iconst (v := (0 : Int32)) hx hb dX3_ratio_12 (by decide) ?_
    exact kp_jI (by simp only [if_pos q_4]) hJ13
  · refine lv_iconst (v := (1 : Int32)) hx hb dX3_ratio_8 (by decide) ?_
    refine lv_goto (tgt := 13) hx hb dX3_ratio_9 (by decide) ?_
    exact kp_jI (by simp only [if_neg q_4]) hJ13
def B_m_divide_1 (c : mw_C) (x : Int32) (y : Int32) : mw_C := S_m_ratio (mp_is c (z_t (0 : Int32))) (((mp_is c (z_t (0 : Int32))).2.1.2.1) x.toNatClampNeg) (((mp_is c (z_t (0 : Int32))).2.1.2.2) x.toNatClampNeg) (((mp_is c (z_t (0 : Int32))).2.1.2.1) y.toNatClampNeg) (((mp_is c (z_t (0 : Int32))).2.1.2.2) y.toNatClampNeg)
def B_m_divide_2 (c : mw_C) (x : Int32) (y : Int32) : mw_C := mp_is (B_m_divide_1 c x y) (z_t (z_i ((B_m_divide_1 c x y).2.2.2.1)))
def B_m_divide_3 (c : mw_C) (x : Int32) (y : Int32) : mw_C := mp_from (B_m_divide_2 c x y) ((B_m_divide_2 c x y).2.2.2.2.1)
def B_m_divide_4 (c : mw_C) (x : Int32) (y : Int32) : mw_C := mp_to (B_m_divide_3 c x y) ((B_m_divide_3 c x y).2.2.2.2.2)
def B_m_divide_5 (c : mw_C) (x : Int32) (y : Int32) : mw_C := S_m_ratio (B_m_divide_4 c x y) (-(((B_m_divide_4 c x y).2.1.2.2) x.toNatClampNeg)) (-(((B_m_divide_4 c x y).2.1.2.1) x.toNatClampNeg)) (-(((B_m_divide_4 c x y).2.1.2.2) y.toNatClampNeg)) (-(((B_m_divide_4 c x y).2.1.2.1) y.toNatClampNeg))
def B_m_divide_6 (c : mw_C) (x : Int32) (y : Int32) : mw_C := mp_from (B_m_divide_5 c x y) (if (z_i ((B_m_divide_5 c x y).2.2.1.1)) = (0 : Int32) then (B_m_divide_5 c x y).2.2.2.2.1 else (if ((B_m_divide_5 c x y).2.2.2.2.1) ≤ ((B_m_divide_5 c x y).2.2.1.2.1) then (B_m_divide_5 c x y).2.2.2.2.1 else (B_m_divide_5 c x y).2.2.1.2.1))
def B_m_divide_7 (c : mw_C) (x : Int32) (y : Int32) : mw_C := mp_to (B_m_divide_6 c x y) (if (z_i ((B_m_divide_6 c x y).2.2.1.1)) = (0 : Int32) then (B_m_divide_6 c x y).2.2.2.2.2 else (if ((B_m_divide_6 c x y).2.2.1.2.2) ≤ ((B_m_divide_6 c x y).2.2.2.2.2) then (B_m_divide_6 c x y).2.2.2.2.2 else (B_m_divide_6 c x y).2.2.1.2.2))
def S_m_divide (c : mw_C) (x : Int32) (y : Int32) : mw_C :=
  if (z_i (((mp_is c (z_t (0 : Int32))).2.1.1) x.toNatClampNeg)) = (0 : Int32) then mp_is c (z_t (0 : Int32)) else (if (z_i (((mp_is c (z_t (0 : Int32))).2.1.1) y.toNatClampNeg)) = (0 : Int32) then mp_is c (z_t (0 : Int32)) else (if (z_i ((B_m_divide_5 c x y).2.2.2.1)) = (0 : Int32) then B_m_divide_5 c x y else mp_is (B_m_divide_7 c x y) (z_t (1 : Int32))))
def rm_m_divide : Room := { frames := 4, cells := 0, slots := 0, locals := 108 }
set_option maxHeartbeats 4000000 in
set_option maxRecDepth 100000 in
theorem C_m_divide (l : Launch) (D : va_G) (ty : List (ClassId × FieldType)) (sz : Nat) (G : mw_G) (Z : va_W) (hG : mw_ok ty sz G Z) (c : mw_C) (x : Int32) (y : Int32) (hx8 : vp_in x 8) (hy8 : vp_in y 8) : kp_M l yX3_divide cX3_divide 3 none rm_m_divide D ty sz [.ref (bM G), .int x, .int y] (mw_W G c Z) (none) (mw_W G (S_m_divide c x y) Z) := by
  refine kp_body (by decide) (Nat.le_of_ble_eq_true rfl) rfl ?_
  intro p e s m args below meth cd ls B hin hl hP hS
  obtain ⟨hx, hb, hml, hown, hlk, hr, hw, hE, hK, hsz⟩ := id B
  have hl : lv_has ls 3 [(0, .ref (bM G)), (1, .int x), (2, .int y)] := hl
  refine lv_aload_n hx hb dX3_divide_0 rfl (lv_at hl 0 rfl) ?_
  refine lv_iconst (v := (0 : Int32)) hx hb dX3_divide_1 (by decide) ?_
  refine km_put6 (v := (0 : Int32)) (M' := mp_is c (z_t (0 : Int32))) B hG hP hS (Or.inl rfl) rfl kw_268 dX3_divide_2 (fun H locs hP hS => ?_)
  refine lv_aload_n hx hb dX3_divide_5 rfl (lv_at hl 0 rfl) ?_
  refine km_get (j := 3) (v := .ref (bB G)) B hP rfl (by decide) kw_298 dX3_divide_6 ?_
  refine lv_iload_n hx hb dX3_divide_9 rfl (lv_at hl 1 rfl) ?_
  refine km_zald (i := x) (v := z_i (((mp_is c (z_t (0 : Int32))).2.1.1) x.toNatClampNeg)) B hG hP hx8 rfl dX3_divide_10 ?_
  refine lv_if_eq (tgt := 23) hx hb dX3_divide_11 (by decide) (fun q_1 => ?_) (fun q_1 => ?_)
  · exact kp_retv B (by simp only [S_m_divide, if_pos q_1]; exact hP) hS rfl dX3_divide_23
  · refine lv_aload_n hx hb dX3_divide_14 rfl (lv_at hl 0 rfl) ?_
    refine km_get (j := 3) (v := .ref (bB G)) B hP rfl (by decide) kw_298 dX3_divide_15 ?_
    refine lv_iload_n hx hb dX3_divide_18 rfl (lv_at hl 2 rfl) ?_
    refine km_zald (i := y) (v := z_i (((mp_is c (z_t (0 : Int32))).2.1.1) y.toNatClampNeg)) B hG hP hy8 rfl dX3_divide_19 ?_
    refine lv_if_ne (tgt := 24) hx hb dX3_divide_20 (by decide) (fun q_2 => ?_) (fun q_2 => ?_)
    · refine lv_aload_n hx hb dX3_divide_24 rfl (lv_at hl 0 rfl) ?_
      refine lv_aload_n hx hb dX3_divide_25 rfl (lv_at hl 0 rfl) ?_
      refine km_get (j := 4) (v := .ref (bL G)) B hP rfl (by decide) kw_299 dX3_divide_26 ?_
      refine lv_iload_n hx hb dX3_divide_29 rfl (lv_at hl 1 rfl) ?_
      refine km_lald (i := x) (v := ((mp_is c (z_t (0 : Int32))).2.1.2.1) x.toNatClampNeg) B hG hP hx8 rfl dX3_divide_30 ?_
      refine lv_aload_n hx hb dX3_divide_31 rfl (lv_at hl 0 rfl) ?_
      refine km_get (j := 5) (v := .ref (bH G)) B hP rfl (by decide) kw_300 dX3_divide_32 ?_
      refine lv_iload_n hx hb dX3_divide_35 rfl (lv_at hl 1 rfl) ?_
      refine km_hald (i := x) (v := ((mp_is c (z_t (0 : Int32))).2.1.2.2) x.toNatClampNeg) B hG hP hx8 rfl dX3_divide_36 ?_
      refine lv_aload_n hx hb dX3_divide_37 rfl (lv_at hl 0 rfl) ?_
      refine km_get (j := 4) (v := .ref (bL G)) B hP rfl (by decide) kw_299 dX3_divide_38 ?_
      refine lv_iload_n hx hb dX3_divide_41 rfl (lv_at hl 2 rfl) ?_
      refine km_lald (i := y) (v := ((mp_is c (z_t (0 : Int32))).2.1.2.1) y.toNatClampNeg) B hG hP hy8 rfl dX3_divide_42 ?_
      refine lv_aload_n hx hb dX3_divide_43 rfl (lv_at hl 0 rfl) ?_
      refine km_get (j := 5) (v := .ref (bH G)) B hP rfl (by decide) kw_300 dX3_divide_44 ?_
      refine lv_iload_n hx hb dX3_divide_47 rfl (lv_at hl 2 rfl) ?_
      refine km_hald (i := y) (v := ((mp_is c (z_t (0 : Int32))).2.1.2.2) y.toNatClampNeg) B hG hP hy8 rfl dX3_divide_48 ?_
      refine kp_callV (rm := rm_m_ratio) (As := [.long (((mp_is c (z_t (0 : Int32))).2.1.2.1) x.toNatClampNeg), .long (((mp_is c (z_t (0 : Int32))).2.1.2.2) x.toNatClampNeg), .long (((mp_is c (z_t (0 : Int32))).2.1.2.1) y.toNatClampNeg), .long (((mp_is c (z_t (0 : Int32))).2.1.2.2) y.toNatClampNeg)]) (rest := []) (r := none) (st1 := []) (ws' := mw_W G (S_m_ratio (mp_is c (z_t (0 : Int32))) (((mp_is c (z_t (0 : Int32))).2.1.2.1) x.toNatClampNeg) (((mp_is c (z_t (0 : Int32))).2.1.2.2) x.toNatClampNeg) (((mp_is c (z_t (0 : Int32))).2.1.2.1) y.toNatClampNeg) (((mp_is c (z_t (0 : Int32))).2.1.2.2) y.toNatClampNeg)) Z) B (C_m_ratio l D ty sz G Z hG (mp_is c (z_t (0 : Int32))) (((mp_is c (z_t (0 : Int32))).2.1.2.1) x.toNatClampNeg) (((mp_is c (z_t (0 : Int32))).2.1.2.2) x.toNatClampNeg) (((mp_is c (z_t (0 : Int32))).2.1.2.1) y.toNatClampNeg) (((mp_is c (z_t (0 : Int32))).2.1.2.2) y.toNatClampNeg)) kt_m_ratio kw_303 kw_304 kw_305 (km_rc B hP) (by decide) rfl rfl (by decide) rfl (Nat.le_of_ble_eq_true rfl) hl.1 hP hS dX3_divide_49 rfl (fun H locs hP hS => ?_)
      have hP : va_P D vwCl (mw_W G (B_m_divide_1 c x y) Z) H := hP
      refine lv_aload_n hx hb dX3_divide_52 rfl (lv_at hl 0 rfl) ?_
      refine lv_aload_n hx hb dX3_divide_53 rfl (lv_at hl 0 rfl) ?_
      refine km_get (j := 9) (v := .int (z_i ((B_m_divide_1 c x y).2.2.2.1))) B hP rfl (by decide) kw_290 dX3_divide_54 ?_
      refine km_put6 (v := z_i ((B_m_divide_1 c x y).2.2.2.1)) (M' := B_m_divide_2 c x y) B hG hP hS (z_i01 _) rfl kw_268 dX3_divide_57 (fun H locs hP hS => ?_)
      refine lv_aload_n hx hb dX3_divide_60 rfl (lv_at hl 0 rfl) ?_
      refine lv_aload_n hx hb dX3_divide_61 rfl (lv_at hl 0 rfl) ?_
      refine km_get (j := 10) (v := .long ((B_m_divide_2 c x y).2.2.2.2.1)) B hP rfl (by decide) kw_296 dX3_divide_62 ?_
      refine km_put7 (v := (B_m_divide_2 c x y).2.2.2.2.1) (M' := B_m_divide_3 c x y) B hG hP hS rfl kw_274 dX3_divide_65 (fun H locs hP hS => ?_)
      refine lv_aload_n hx hb dX3_divide_68 rfl (lv_at hl 0 rfl) ?_
      refine lv_aload_n hx hb dX3_divide_69 rfl (lv_at hl 0 rfl) ?_
      refine km_get (j := 11) (v := .long ((B_m_divide_3 c x y).2.2.2.2.2)) B hP rfl (by decide) kw_297 dX3_divide_70 ?_
      refine km_put8 (v := (B_m_divide_3 c x y).2.2.2.2.2) (M' := B_m_divide_4 c x y) B hG hP hS rfl kw_275 dX3_divide_73 (fun H locs hP hS => ?_)
      refine lv_aload_n hx hb dX3_divide_76 rfl (lv_at hl 0 rfl) ?_
      refine lv_aload_n hx hb dX3_divide_77 rfl (lv_at hl 0 rfl) ?_
      refine km_get (j := 5) (v := .ref (bH G)) B hP rfl (by decide) kw_300 dX3_divide_78 ?_
      refine lv_iload_n hx hb dX3_divide_81 rfl (lv_at hl 1 rfl) ?_
      refine km_hald (i := x) (v := ((B_m_divide_4 c x y).2.1.2.2) x.toNatClampNeg) B hG hP hx8 rfl dX3_divide_82 ?_
      refine lv_lneg hx hb dX3_divide_83 ?_
      refine lv_aload_n hx hb dX3_divide_84 rfl (lv_at hl 0 rfl) ?_
      refine km_get (j := 4) (v := .ref (bL G)) B hP rfl (by decide) kw_299 dX3_divide_85 ?_
      refine lv_iload_n hx hb dX3_divide_88 rfl (lv_at hl 1 rfl) ?_
      refine km_lald (i := x) (v := ((B_m_divide_4 c x y).2.1.2.1) x.toNatClampNeg) B hG hP hx8 rfl dX3_divide_89 ?_
      refine lv_lneg hx hb dX3_divide_90 ?_
      refine lv_aload_n hx hb dX3_divide_91 rfl (lv_at hl 0 rfl) ?_
      refine km_get (j := 5) (v := .ref (bH G)) B hP rfl (by decide) kw_300 dX3_divide_92 ?_
      refine lv_iload_n hx hb dX3_divide_95 rfl (lv_at hl 2 rfl) ?_
      refine km_hald (i := y) (v := ((B_m_divide_4 c x y).2.1.2.2) y.toNatClampNeg) B hG hP hy8 rfl dX3_divide_96 ?_
      refine lv_lneg hx hb dX3_divide_97 ?_
      refine lv_aload_n hx hb dX3_divide_98 rfl (lv_at hl 0 rfl) ?_
      refine km_get (j := 4) (v := .ref (bL G)) B hP rfl (by decide) kw_299 dX3_divide_99 ?_
      refine lv_iload_n hx hb dX3_divide_102 rfl (lv_at hl 2 rfl) ?_
      refine km_lald (i := y) (v := ((B_m_divide_4 c x y).2.1.2.1) y.toNatClampNeg) B hG hP hy8 rfl dX3_divide_103 ?_
      refine lv_lneg hx hb dX3_divide_104 ?_
      refine kp_callV (rm := rm_m_ratio) (As := [.long (-(((B_m_divide_4 c x y).2.1.2.2) x.toNatClampNeg)), .long (-(((B_m_divide_4 c x y).2.1.2.1) x.toNatClampNeg)), .long (-(((B_m_divide_4 c x y).2.1.2.2) y.toNatClampNeg)), .long (-(((B_m_divide_4 c x y).2.1.2.1) y.toNatClampNeg))]) (rest := []) (r := none) (st1 := []) (ws' := mw_W G (S_m_ratio (B_m_divide_4 c x y) (-(((B_m_divide_4 c x y).2.1.2.2) x.toNatClampNeg)) (-(((B_m_divide_4 c x y).2.1.2.1) x.toNatClampNeg)) (-(((B_m_divide_4 c x y).2.1.2.2) y.toNatClampNeg)) (-(((B_m_divide_4 c x y).2.1.2.1) y.toNatClampNeg))) Z) B (C_m_ratio l D ty sz G Z hG (B_m_divide_4 c x y) (-(((B_m_divide_4 c x y).2.1.2.2) x.toNatClampNeg)) (-(((B_m_divide_4 c x y).2.1.2.1) x.toNatClampNeg)) (-(((B_m_divide_4 c x y).2.1.2.2) y.toNatClampNeg)) (-(((B_m_divide_4 c x y).2.1.2.1) y.toNatClampNeg))) kt_m_ratio kw_303 kw_304 kw_305 (km_rc B hP) (by decide) rfl rfl (by decide) rfl (Nat.le_of_ble_eq_true rfl) hl.1 hP hS dX3_divide_105 rfl (fun H locs hP hS => ?_)
      have hP : va_P D vwCl (mw_W G (B_m_divide_5 c x y) Z) H := hP
      refine lv_aload_n hx hb dX3_divide_108 rfl (lv_at hl 0 rfl) ?_
      refine km_get (j := 9) (v := .int (z_i ((B_m_divide_5 c x y).2.2.2.1))) B hP rfl (by decide) kw_290 dX3_divide_109 ?_
      refine lv_if_ne (tgt := 116) hx hb dX3_divide_112 (by decide) (fun q_3 => ?_) (fun q_3 => ?_)
      · refine lv_aload_n hx hb dX3_divide_116 rfl (lv_at hl 0 rfl) ?_
        refine lv_aload_n hx hb dX3_divide_117 rfl (lv_at hl 0 rfl) ?_
        refine km_get (j := 6) (v := .int (z_i ((B_m_divide_5 c x y).2.2.1.1))) B hP rfl (by decide) kw_268 dX3_divide_118 ?_
        have hJ147 : W p l e rm_m_divide s m args below meth cd H locs 0 0 (MQ below (kp_Q D sz (none) (mw_W G (S_m_divide c x y) Z)) args s rm_m_divide.cells rm_m_divide.slots (kp_A sz)) (F0 m 147 ls [.long (if (z_i ((B_m_divide_5 c x y).2.2.1.1)) = (0 : Int32) then (B_m_divide_5 c x y).2.2.2.2.1 else (if ((B_m_divide_5 c x y).2.2.2.2.1) ≤ ((B_m_divide_5 c x y).2.2.1.2.1) then (B_m_divide_5 c x y).2.2.2.2.1 else (B_m_divide_5 c x y).2.2.1.2.1)), .ref (bM G)]) := by
          refine km_put7 (v := if (z_i ((B_m_divide_5 c x y).2.2.1.1)) = (0 : Int32) then (B_m_divide_5 c x y).2.2.2.2.1 else (if ((B_m_divide_5 c x y).2.2.2.2.1) ≤ ((B_m_divide_5 c x y).2.2.1.2.1) then (B_m_divide_5 c x y).2.2.2.2.1 else (B_m_divide_5 c x y).2.2.1.2.1)) (M' := B_m_divide_6 c x y) B hG hP hS rfl kw_274 dX3_divide_147 (fun H locs hP hS => ?_)
          refine lv_aload_n hx hb dX3_divide_150 rfl (lv_at hl 0 rfl) ?_
          refine lv_aload_n hx hb dX3_divide_151 rfl (lv_at hl 0 rfl) ?_
          refine km_get (j := 6) (v := .int (z_i ((B_m_divide_6 c x y).2.2.1.1))) B hP rfl (by decide) kw_268 dX3_divide_152 ?_
          have hJ181 : W p l e rm_m_divide s m args below meth cd H locs 0 0 (MQ below (kp_Q D sz (none) (mw_W G (S_m_divide c x y) Z)) args s rm_m_divide.cells rm_m_divide.slots (kp_A sz)) (F0 m 181 ls [.long (if (z_i ((B_m_divide_6 c x y).2.2.1.1)) = (0 : Int32) then (B_m_divide_6 c x y).2.2.2.2.2 else (if ((B_m_divide_6 c x y).2.2.1.2.2) ≤ ((B_m_divide_6 c x y).2.2.2.2.2) then (B_m_divide_6 c x y).2.2.2.2.2 else (B_m_divide_6 c x y).2.2.1.2.2)), .ref (bM G)]) := by
            refine km_put8 (v := if (z_i ((B_m_divide_6 c x y).2.2.1.1)) = (0 : Int32) then (B_m_divide_6 c x y).2.2.2.2.2 else (if ((B_m_divide_6 c x y).2.2.1.2.2) ≤ ((B_m_divide_6 c x y).2.2.2.2.2) then (B_m_divide_6 c x y).2.2.2.2.2 else (B_m_divide_6 c x y).2.2.1.2.2)) (M' := B_m_divide_7 c x y) B hG hP hS rfl kw_275 dX3_divide_181 (fun H locs hP hS => ?_)
            refine lv_aload_n hx hb dX3_divide_184 rfl (lv_at hl 0 rfl) ?_
            refine lv_iconst (v := (1 : Int32)) hx hb dX3_divide_185 (by decide) ?_
            refine km_put6 (v := (1 : Int32)) (M' := mp_is (B_m_divide_7 c x y) (z_t (1 : Int32))) B hG hP hS (Or.inr rfl) rfl kw_268 dX3_divide_186 (fun H locs hP hS => ?_)
            exact kp_retv B (by simp only [S_m_divide, if_neg q_1, if_neg q_2, if_neg q_3]; exact hP) hS rfl dX3_divide_189
          refine lv_if_eq (tgt := 177) hx hb dX3_divide_155 (by decide) (fun q_4 => ?_) (fun q_4 => ?_)
          · refine lv_aload_n hx hb dX3_divide_177 rfl (lv_at hl 0 rfl) ?_
            refine km_get (j := 11) (v := .long ((B_m_divide_6 c x y).2.2.2.2.2)) B hP rfl (by decide) kw_297 dX3_divide_178 ?_
            exact kp_jJ (by simp only [if_pos q_4]) hJ181
          · refine lv_aload_n hx hb dX3_divide_158 rfl (lv_at hl 0 rfl) ?_
            refine km_get (j := 8) (v := .long ((B_m_divide_6 c x y).2.2.1.2.2)) B hP rfl (by decide) kw_275 dX3_divide_159 ?_
            refine lv_aload_n hx hb dX3_divide_162 rfl (lv_at hl 0 rfl) ?_
            refine km_get (j := 11) (v := .long ((B_m_divide_6 c x y).2.2.2.2.2)) B hP rfl (by decide) kw_297 dX3_divide_163 ?_
            refine kp_lle (tgt := 177) hx hb dX3_divide_166 dX3_divide_167 (by decide) (fun q_5 => ?_) (fun q_5 => ?_)
            · refine lv_aload_n hx hb dX3_divide_177 rfl (lv_at hl 0 rfl) ?_
              refine km_get (j := 11) (v := .long ((B_m_divide_6 c x y).2.2.2.2.2)) B hP rfl (by decide) kw_297 dX3_divide_178 ?_
              exact kp_jJ (by simp only [if_neg q_4, if_pos q_5]) hJ181
            · refine lv_aload_n hx hb dX3_divide_170 rfl (lv_at hl 0 rfl) ?_
              refine km_get (j := 8) (v := .long ((B_m_divide_6 c x y).2.2.1.2.2)) B hP rfl (by decide) kw_275 dX3_divide_171 ?_
              refine lv_goto (tgt := 181) hx hb dX3_divide_174 (by decide) ?_
              exact kp_jJ (by simp only [if_neg q_4, if_neg q_5]) hJ181
        refine lv_if_eq (tgt := 143) hx hb dX3_divide_121 (by decide) (fun q_6 => ?_) (fun q_6 => ?_)
        · refine lv_aload_n hx hb dX3_divide_143 rfl (lv_at hl 0 rfl) ?_
          refine km_get (j := 10) (v := .long ((B_m_divide_5 c x y).2.2.2.2.1)) B hP rfl (by decide) kw_296 dX3_divide_144 ?_
          exact kp_jJ (by simp only [if_pos q_6]) hJ147
        · refine lv_aload_n hx hb dX3_divide_124 rfl (lv_at hl 0 rfl) ?_
          refine km_get (j := 7) (v := .long ((B_m_divide_5 c x y).2.2.1.2.1)) B hP rfl (by decide) kw_274 dX3_divide_125 ?_
          refine lv_aload_n hx hb dX3_divide_128 rfl (lv_at hl 0 rfl) ?_
          refine km_get (j := 10) (v := .long ((B_m_divide_5 c x y).2.2.2.2.1)) B hP rfl (by decide) kw_296 dX3_divide_129 ?_
          refine kp_lge (tgt := 143) hx hb dX3_divide_132 dX3_divide_133 (by decide) (fun q_7 => ?_) (fun q_7 => ?_)
          · refine lv_aload_n hx hb dX3_divide_143 rfl (lv_at hl 0 rfl) ?_
            refine km_get (j := 10) (v := .long ((B_m_divide_5 c x y).2.2.2.2.1)) B hP rfl (by decide) kw_296 dX3_divide_144 ?_
            exact kp_jJ (by simp only [if_neg q_6, if_pos q_7]) hJ147
          · refine lv_aload_n hx hb dX3_divide_136 rfl (lv_at hl 0 rfl) ?_
            refine km_get (j := 7) (v := .long ((B_m_divide_5 c x y).2.2.1.2.1)) B hP rfl (by decide) kw_274 dX3_divide_137 ?_
            refine lv_goto (tgt := 147) hx hb dX3_divide_140 (by decide) ?_
            exact kp_jJ (by simp only [if_neg q_6, if_neg q_7]) hJ147
      · exact kp_retv B (by simp only [S_m_divide, if_neg q_1, if_neg q_2, if_pos q_3]; exact hP) hS rfl dX3_divide_115
    · exact kp_retv B (by simp only [S_m_divide, if_neg q_1, if_pos q_2]; exact hP) hS rfl dX3_divide_23
def LF_m_root (x : Int64) : Nat → Int64 → Int32 → Int64
  | 0, r, i => 0
  | n + 1, r, i => if i < (0 : Int32) then r else LF_m_root x n (if x < ((r + ((1 : Int64) <<< (i.toInt64 &&& 63))) * (r + ((1 : Int64) <<< (i.toInt64 &&& 63)))) then r else r + ((1 : Int64) <<< (i.toInt64 &&& 63))) (i + (-1 : Int32))
def F_m_root (x : Int64) : Int64 :=
  LF_m_root x 26 (0 : Int64) (24 : Int32)
def rm_m_root : Room := { frames := 0, cells := 0, slots := 0, locals := 0 }
set_option maxHeartbeats 4000000 in
set_option maxRecDepth 100000 in
theorem LP_m_root (l : Launch) (D : va_G) (ty : List (ClassId × FieldType)) (sz : Nat) (G : mw_G) (Z : va_W) (hG : mw_ok ty sz G Z) (c : mw_C) (x : Int64) {p : Program} {e : Env} {s : State} {m : MethodId} {args : Array Value} {below : List Frame} {meth : Method} {cd : Code} (B : kp_B p l s m args meth cd yX3_root.cls cX3_root 5 (some .long) D ty sz) (hP : va_P D vwCl (mw_W G c Z) s.heap) :
    ∀ (n : Nat) (r : Int64) (i : Int32) (h1 : -1 ≤ i.toInt) (h2 : i.toInt + 2 ≤ n), ∀ (ls : Array Slot), lv_has ls 5 [(0, .long x), (2, .long r), (4, .int i)] → W p l e rm_m_root s m args below meth cd s.heap [] 0 0 (MQ below (kp_QR (some (.long (LF_m_root x n r i)))) args s 0 0 (fun _ => False)) (F0 m 6 ls []) := by
  obtain ⟨hx, hb, hml, hown, hlk, hr, hw, hE, hK, hsz⟩ := id B
  intro n
  induction n with
  | zero =>
    intro r i h1 h2
    exact absurd h2 (by omega)
  | succ n ih =>
    intro r i h1 h2 ls hl
    have hS : va_S (kp_A sz) s.heap s.heap [] := va_S.rf
    refine lv_iload hx hb dX3_root_6 (lv_at hl 2 rfl) ?_
    refine lv_if_lt (tgt := 42) hx hb dX3_root_8 (by decide) (fun q_1 => ?_) (fun q_1 => ?_)
    · refine lv_lload_n hx hb dX3_root_42 rfl (lv_at hl 1 rfl) ?_
      exact kp_retlR B (by simp only [LF_m_root, if_pos q_1]) dX3_root_43
    · refine lv_lload_n hx hb dX3_root_11 rfl (lv_at hl 1 rfl) ?_
      refine lv_lconst (v := (1 : Int64)) hx hb dX3_root_12 (by decide) ?_
      refine lv_iload hx hb dX3_root_13 (lv_at hl 2 rfl) ?_
      refine lv_lshl (v := (1 : Int64) <<< (i.toInt64 &&& 63)) hx hb dX3_root_15 rfl ?_
      refine lv_ladd hx hb dX3_root_16 ?_
      refine lv_lload_n hx hb dX3_root_17 rfl (lv_at hl 1 rfl) ?_
      refine lv_lconst (v := (1 : Int64)) hx hb dX3_root_18 (by decide) ?_
      refine lv_iload hx hb dX3_root_19 (lv_at hl 2 rfl) ?_
      refine lv_lshl (v := (1 : Int64) <<< (i.toInt64 &&& 63)) hx hb dX3_root_21 rfl ?_
      refine lv_ladd hx hb dX3_root_22 ?_
      refine lv_lmul hx hb dX3_root_23 ?_
      refine lv_lload_n hx hb dX3_root_24 rfl (lv_at hl 0 rfl) ?_
      have hJ36 : ∀ ls : Array Slot, lv_has ls 5 [(0, .long x), (2, .long (if x < ((r + ((1 : Int64) <<< (i.toInt64 &&& 63))) * (r + ((1 : Int64) <<< (i.toInt64 &&& 63)))) then r else r + ((1 : Int64) <<< (i.toInt64 &&& 63)))), (4, .int i)] → W p l e rm_m_root s m args below meth cd s.heap [] 0 0 (MQ below (kp_QR (some (.long (LF_m_root x (n + 1) r i)))) args s 0 0 (fun _ => False)) (F0 m 36 ls []) := by
        intro ls hl
        refine lv_iinc (v := i + (-1 : Int32)) (lv' := [(4, .int (i + (-1 : Int32))), (0, .long x), (2, .long (if x < ((r + ((1 : Int64) <<< (i.toInt64 &&& 63))) * (r + ((1 : Int64) <<< (i.toInt64 &&& 63)))) then r else r + ((1 : Int64) <<< (i.toInt64 &&& 63))))]) hx hb dX3_root_36 hl (k := 2) rfl rfl (by decide) rfl (fun ls hl => ?_)
        refine lv_goto (tgt := 6) hx hb dX3_root_39 (by decide) ?_
        rw [show LF_m_root x (n + 1) r i = LF_m_root x n (if x < ((r + ((1 : Int64) <<< (i.toInt64 &&& 63))) * (r + ((1 : Int64) <<< (i.toInt64 &&& 63)))) then r else r + ((1 : Int64) <<< (i.toInt64 &&& 63))) (i + (-1 : Int32)) from by simp only [LF_m_root, if_neg q_1]]
        exact ih (if x < ((r + ((1 : Int64) <<< (i.toInt64 &&& 63))) * (r + ((1 : Int64) <<< (i.toInt64 &&& 63)))) then r else r + ((1 : Int64) <<< (i.toInt64 &&& 63))) (i + (-1 : Int32)) (ki_dn h1 q_1 h2).1 (ki_dn h1 q_1 h2).2 ls (lv_sub hl [1, 2, 0] rfl)
      refine kp_lgt (tgt := 36) hx hb dX3_root_25 dX3_root_26 (by decide) (fun q_2 => ?_) (fun q_2 => ?_)
      · exact hJ36 ls (kp_jl (lv_sub (l' := [(0, .long x), (2, .long r), (4, .int i)]) hl [0, 1, 2] rfl) (by simp only [if_pos q_2]))
      · refine lv_lload_n hx hb dX3_root_29 rfl (lv_at hl 1 rfl) ?_
        refine lv_lconst (v := (1 : Int64)) hx hb dX3_root_30 (by decide) ?_
        refine lv_iload hx hb dX3_root_31 (lv_at hl 2 rfl) ?_
        refine lv_lshl (v := (1 : Int64) <<< (i.toInt64 &&& 63)) hx hb dX3_root_33 rfl ?_
        refine lv_ladd hx hb dX3_root_34 ?_
        refine lv_lstore_n (lv' := [(2, .long (r + ((1 : Int64) <<< (i.toInt64 &&& 63)))), (0, .long x), (4, .int i)]) hx hb dX3_root_35 rfl hl (by decide) rfl (fun ls hl => ?_)
        exact hJ36 ls (kp_jl (lv_sub (l' := [(0, .long x), (2, .long (r + ((1 : Int64) <<< (i.toInt64 &&& 63)))), (4, .int i)]) hl [1, 0, 2] rfl) (by simp only [if_neg q_2]))
set_option maxHeartbeats 4000000 in
set_option maxRecDepth 100000 in
theorem C_m_root (l : Launch) (D : va_G) (ty : List (ClassId × FieldType)) (sz : Nat) (G : mw_G) (Z : va_W) (hG : mw_ok ty sz G Z) (c : mw_C) (x : Int64) : kp_R l yX3_root cX3_root 5 (some .long) rm_m_root D ty sz [.long x] (mw_W G c Z) (some (.long (F_m_root x))) := by
  refine kp_bodyR (by decide) (Nat.le_of_ble_eq_true rfl) rfl ?_
  intro p e s m args below meth cd ls B hl hP hS
  obtain ⟨hx, hb, hml, hown, hlk, hr, hw, hE, hK, hsz⟩ := id B
  have hl : lv_has ls 5 [(0, .long x)] := hl
  refine lv_lconst (v := (0 : Int64)) hx hb dX3_root_0 (by decide) ?_
  refine lv_lstore_n (lv' := [(2, .long (0 : Int64)), (0, .long x)]) hx hb dX3_root_1 rfl hl (by decide) rfl (fun ls hl => ?_)
  refine lv_bipush (v := (24 : Int32)) hx hb dX3_root_2 (by decide) ?_
  refine lv_istore (lv' := [(4, .int (24 : Int32)), (2, .long (0 : Int64)), (0, .long x)]) hx hb dX3_root_4 hl (by decide) rfl (fun ls hl => ?_)
  exact LP_m_root l D ty sz G Z hG c x B hP 26 (0 : Int64) (24 : Int32) (by decide) (by decide) ls (lv_sub hl [2, 1, 0] rfl)
def B_m_roots_1 (c : mw_C) (x : Int64) (y : Int64) : mw_C := mp_is c (z_t (if y < (0 : Int64) then (0 : Int32) else (1 : Int32)))
def A_m_roots_2 (c : mw_C) (x : Int64) (y : Int64) : Int64 := if x ≤ (0 : Int64) then (0 : Int64) else F_m_root (x <<< ((F_m_fine (B_m_roots_1 c x y)).toInt64 &&& 63))
def B_m_roots_3 (c : mw_C) (x : Int64) (y : Int64) : mw_C := mp_from (B_m_roots_1 c x y) (F_m_rounded (B_m_roots_1 c x y) (A_m_roots_2 c x y) (1 : Int64) (0 : Int32))
def A_m_roots_4 (c : mw_C) (x : Int64) (y : Int64) : Int64 := F_m_root (y <<< ((F_m_fine (B_m_roots_3 c x y)).toInt64 &&& 63))
def B_m_roots_5 (c : mw_C) (x : Int64) (y : Int64) : mw_C := mp_to (B_m_roots_3 c x y) (F_m_rounded (B_m_roots_3 c x y) (if ((A_m_roots_4 c x y) * (A_m_roots_4 c x y)) = (y <<< ((F_m_fine (B_m_roots_3 c x y)).toInt64 &&& 63)) then (2 : Int64) * (A_m_roots_4 c x y) else ((2 : Int64) * (A_m_roots_4 c x y)) + (1 : Int64)) (2 : Int64) (1 : Int32))
def S_m_roots (c : mw_C) (x : Int64) (y : Int64) : mw_C :=
  if (z_i ((B_m_roots_1 c x y).2.2.1.1)) = (0 : Int32) then B_m_roots_1 c x y else (if (F_m_isEnd y) = (0 : Int32) then mp_to (B_m_roots_3 c x y) mw_far else B_m_roots_5 c x y)
def rm_m_roots : Room := { frames := 2, cells := 0, slots := 0, locals := 55 }
set_option maxHeartbeats 4000000 in
set_option maxRecDepth 100000 in
theorem C_m_roots (l : Launch) (D : va_G) (ty : List (ClassId × FieldType)) (sz : Nat) (G : mw_G) (Z : va_W) (hG : mw_ok ty sz G Z) (c : mw_C) (x : Int64) (y : Int64) : kp_M l yX3_roots cX3_roots 9 none rm_m_roots D ty sz [.ref (bM G), .long x, .long y] (mw_W G c Z) (none) (mw_W G (S_m_roots c x y) Z) := by
  refine kp_body (by decide) (Nat.le_of_ble_eq_true rfl) rfl ?_
  intro p e s m args below meth cd ls B hin hl hP hS
  obtain ⟨hx, hb, hml, hown, hlk, hr, hw, hE, hK, hsz⟩ := id B
  have hl : lv_has ls 9 [(0, .ref (bM G)), (1, .long x), (3, .long y)] := hl
  refine lv_aload_n hx hb dX3_roots_0 rfl (lv_at hl 0 rfl) ?_
  refine lv_lload_n hx hb dX3_roots_1 rfl (lv_at hl 2 rfl) ?_
  refine lv_lconst (v := (0 : Int64)) hx hb dX3_roots_2 (by decide) ?_
  have hJ12 : W p l e rm_m_roots s m args below meth cd s.heap [] 0 0 (MQ below (kp_Q D sz (none) (mw_W G (S_m_roots c x y) Z)) args s rm_m_roots.cells rm_m_roots.slots (kp_A sz)) (F0 m 12 ls [.int (if y < (0 : Int64) then (0 : Int32) else (1 : Int32)), .ref (bM G)]) := by
    refine km_put6 (v := if y < (0 : Int64) then (0 : Int32) else (1 : Int32)) (M' := B_m_roots_1 c x y) B hG hP hS (z_ite01 (Or.inl rfl) (Or.inr rfl)) rfl kw_268 dX3_roots_12 (fun H locs hP hS => ?_)
    refine lv_aload_n hx hb dX3_roots_15 rfl (lv_at hl 0 rfl) ?_
    refine km_get (j := 6) (v := .int (z_i ((B_m_roots_1 c x y).2.2.1.1))) B hP rfl (by decide) kw_268 dX3_roots_16 ?_
    refine lv_if_ne (tgt := 23) hx hb dX3_roots_19 (by decide) (fun q_1 => ?_) (fun q_1 => ?_)
    · refine lv_lload_n hx hb dX3_roots_23 rfl (lv_at hl 1 rfl) ?_
      refine lv_lconst (v := (0 : Int64)) hx hb dX3_roots_24 (by decide) ?_
      have hJ42 : W p l e rm_m_roots s m args below meth cd H locs 0 0 (MQ below (kp_Q D sz (none) (mw_W G (S_m_roots c x y) Z)) args s rm_m_roots.cells rm_m_roots.slots (kp_A sz)) (F0 m 42 ls [.long (if x ≤ (0 : Int64) then (0 : Int64) else F_m_root (x <<< ((F_m_fine (B_m_roots_1 c x y)).toInt64 &&& 63)))]) := by
        refine W.eq (g2 := F0 m 42 ls [.long (A_m_roots_2 c x y)]) rfl ?_
        refine lv_lstore (lv' := [(5, .long (A_m_roots_2 c x y)), (0, .ref (bM G)), (1, .long x), (3, .long y)]) hx hb dX3_roots_42 hl (by decide) rfl (fun ls hl => ?_)
        refine lv_aload_n hx hb dX3_roots_44 rfl (lv_at hl 1 rfl) ?_
        refine lv_aload_n hx hb dX3_roots_45 rfl (lv_at hl 1 rfl) ?_
        refine lv_lload hx hb dX3_roots_46 (lv_at hl 0 rfl) ?_
        refine lv_lconst (v := (1 : Int64)) hx hb dX3_roots_48 (by decide) ?_
        refine lv_iconst (v := (0 : Int32)) hx hb dX3_roots_49 (by decide) ?_
        refine kp_callVR (rm := rm_m_rounded) (As := [.long (A_m_roots_2 c x y), .long (1 : Int64), .int (0 : Int32)]) (rest := [.ref (bM G)]) (r := some (.long (F_m_rounded (B_m_roots_1 c x y) (A_m_roots_2 c x y) (1 : Int64) (0 : Int32)))) (st1 := [.long (F_m_rounded (B_m_roots_1 c x y) (A_m_roots_2 c x y) (1 : Int64) (0 : Int32)), .ref (bM G)]) B (C_m_rounded l D ty sz G Z hG (B_m_roots_1 c x y) (A_m_roots_2 c x y) (1 : Int64) (0 : Int32) (by decide)) kt_m_rounded kw_271 kw_272 kw_273 (km_rc B hP) (by decide) ⟨rfl, rfl⟩ (by decide) rfl (Nat.le_of_ble_eq_true rfl) hl.1 hP hS dX3_roots_50 rfl ?_
        refine km_put7 (v := F_m_rounded (B_m_roots_1 c x y) (A_m_roots_2 c x y) (1 : Int64) (0 : Int32)) (M' := B_m_roots_3 c x y) B hG hP hS rfl kw_274 dX3_roots_53 (fun H locs hP hS => ?_)
        refine lv_lload_n hx hb dX3_roots_56 rfl (lv_at hl 3 rfl) ?_
        refine kp_callSR (rm := rm_m_isEnd) (As := [.long y]) (rest := []) (r := some (.int (F_m_isEnd y))) (st1 := [.int (F_m_isEnd y)]) B (C_m_isEnd l D ty sz G Z hG (B_m_roots_3 c x y) y) kt_m_isEnd kw_266 kw_267 (by decide) ⟨rfl, rfl⟩ (by decide) rfl (Nat.le_of_ble_eq_true rfl) hl.1 hP hS dX3_roots_57 rfl ?_
        refine lv_if_ne (tgt := 71) hx hb dX3_roots_60 (by decide) (fun q_2 => ?_) (fun q_2 => ?_)
        · refine lv_lload_n hx hb dX3_roots_71 rfl (lv_at hl 3 rfl) ?_
          refine lv_aload_n hx hb dX3_roots_72 rfl (lv_at hl 1 rfl) ?_
          refine kp_callVR (rm := rm_m_fine) (As := []) (rest := [.long y]) (r := some (.int (F_m_fine (B_m_roots_3 c x y)))) (st1 := [.int (F_m_fine (B_m_roots_3 c x y)), .long y]) B (C_m_fine l D ty sz G Z hG (B_m_roots_3 c x y)) kt_m_fine kw_282 kw_283 kw_284 (km_rc B hP) (by decide) ⟨rfl, rfl⟩ (by decide) rfl (Nat.le_of_ble_eq_true rfl) hl.1 hP hS dX3_roots_73 rfl ?_
          refine lv_lshl (v := y <<< ((F_m_fine (B_m_roots_3 c x y)).toInt64 &&& 63)) hx hb dX3_roots_76 rfl ?_
          refine kp_callSR (rm := rm_m_root) (As := [.long (y <<< ((F_m_fine (B_m_roots_3 c x y)).toInt64 &&& 63))]) (rest := []) (r := some (.long (F_m_root (y <<< ((F_m_fine (B_m_roots_3 c x y)).toInt64 &&& 63))))) (st1 := [.long (F_m_root (y <<< ((F_m_fine (B_m_roots_3 c x y)).toInt64 &&& 63)))]) B (C_m_root l D ty sz G Z hG (B_m_roots_3 c x y) (y <<< ((F_m_fine (B_m_roots_3 c x y)).toInt64 &&& 63))) kt_m_root kw_308 kw_309 (by decide) ⟨rfl, rfl⟩ (by decide) rfl (Nat.le_of_ble_eq_true rfl) hl.1 hP hS dX3_roots_77 rfl ?_
          refine W.eq (g2 := F0 m 80 ls [.long (A_m_roots_4 c x y)]) rfl ?_
          refine lv_lstore (lv' := [(7, .long (A_m_roots_4 c x y)), (5, .long (A_m_roots_2 c x y)), (0, .ref (bM G)), (1, .long x), (3, .long y)]) hx hb dX3_roots_80 hl (by decide) rfl (fun ls hl => ?_)
          refine lv_aload_n hx hb dX3_roots_82 rfl (lv_at hl 2 rfl) ?_
          refine lv_aload_n hx hb dX3_roots_83 rfl (lv_at hl 2 rfl) ?_
          refine lv_lload hx hb dX3_roots_84 (lv_at hl 0 rfl) ?_
          refine lv_lload hx hb dX3_roots_86 (lv_at hl 0 rfl) ?_
          refine lv_lmul hx hb dX3_roots_88 ?_
          refine lv_lload_n hx hb dX3_roots_89 rfl (lv_at hl 4 rfl) ?_
          refine lv_aload_n hx hb dX3_roots_90 rfl (lv_at hl 2 rfl) ?_
          refine kp_callVR (rm := rm_m_fine) (As := []) (rest := [.long y, .long ((A_m_roots_4 c x y) * (A_m_roots_4 c x y)), .ref (bM G), .ref (bM G)]) (r := some (.int (F_m_fine (B_m_roots_3 c x y)))) (st1 := [.int (F_m_fine (B_m_roots_3 c x y)), .long y, .long ((A_m_roots_4 c x y) * (A_m_roots_4 c x y)), .ref (bM G), .ref (bM G)]) B (C_m_fine l D ty sz G Z hG (B_m_roots_3 c x y)) kt_m_fine kw_282 kw_283 kw_284 (km_rc B hP) (by decide) ⟨rfl, rfl⟩ (by decide) rfl (Nat.le_of_ble_eq_true rfl) hl.1 hP hS dX3_roots_91 rfl ?_
          refine lv_lshl (v := y <<< ((F_m_fine (B_m_roots_3 c x y)).toInt64 &&& 63)) hx hb dX3_roots_94 rfl ?_
          have hJ116 : W p l e rm_m_roots s m args below meth cd H locs 0 0 (MQ below (kp_Q D sz (none) (mw_W G (S_m_roots c x y) Z)) args s rm_m_roots.cells rm_m_roots.slots (kp_A sz)) (F0 m 116 ls [.long (if ((A_m_roots_4 c x y) * (A_m_roots_4 c x y)) = (y <<< ((F_m_fine (B_m_roots_3 c x y)).toInt64 &&& 63)) then (2 : Int64) * (A_m_roots_4 c x y) else ((2 : Int64) * (A_m_roots_4 c x y)) + (1 : Int64)), .ref (bM G), .ref (bM G)]) := by
            refine lv_ldc2 (v := (2 : Int64)) hx hb hown (hw _ kw_247 rfl) dX3_roots_116 ?_
            refine lv_iconst (v := (1 : Int32)) hx hb dX3_roots_119 (by decide) ?_
            refine kp_callVR (rm := rm_m_rounded) (As := [.long (if ((A_m_roots_4 c x y) * (A_m_roots_4 c x y)) = (y <<< ((F_m_fine (B_m_roots_3 c x y)).toInt64 &&& 63)) then (2 : Int64) * (A_m_roots_4 c x y) else ((2 : Int64) * (A_m_roots_4 c x y)) + (1 : Int64)), .long (2 : Int64), .int (1 : Int32)]) (rest := [.ref (bM G)]) (r := some (.long (F_m_rounded (B_m_roots_3 c x y) (if ((A_m_roots_4 c x y) * (A_m_roots_4 c x y)) = (y <<< ((F_m_fine (B_m_roots_3 c x y)).toInt64 &&& 63)) then (2 : Int64) * (A_m_roots_4 c x y) else ((2 : Int64) * (A_m_roots_4 c x y)) + (1 : Int64)) (2 : Int64) (1 : Int32)))) (st1 := [.long (F_m_rounded (B_m_roots_3 c x y) (if ((A_m_roots_4 c x y) * (A_m_roots_4 c x y)) = (y <<< ((F_m_fine (B_m_roots_3 c x y)).toInt64 &&& 63)) then (2 : Int64) * (A_m_roots_4 c x y) else ((2 : Int64) * (A_m_roots_4 c x y)) + (1 : Int64)) (2 : Int64) (1 : Int32)), .ref (bM G)]) B (C_m_rounded l D ty sz G Z hG (B_m_roots_3 c x y) (if ((A_m_roots_4 c x y) * (A_m_roots_4 c x y)) = (y <<< ((F_m_fine (B_m_roots_3 c x y)).toInt64 &&& 63)) then (2 : Int64) * (A_m_roots_4 c x y) else ((2 : Int64) * (A_m_roots_4 c x y)) + (1 : Int64)) (2 : Int64) (1 : Int32) (by decide)) kt_m_rounded kw_271 kw_272 kw_273 (km_rc B hP) (by decide) ⟨rfl, rfl⟩ (by decide) rfl (Nat.le_of_ble_eq_true rfl) hl.1 hP hS dX3_roots_120 rfl ?_
            refine km_put8 (v := F_m_rounded (B_m_roots_3 c x y) (if ((A_m_roots_4 c x y) * (A_m_roots_4 c x y)) = (y <<< ((F_m_fine (B_m_roots_3 c x y)).toInt64 &&& 63)) then (2 : Int64) * (A_m_roots_4 c x y) else ((2 : Int64) * (A_m_roots_4 c x y)) + (1 : Int64)) (2 : Int64) (1 : Int32)) (M' := B_m_roots_5 c x y) B hG hP hS rfl kw_275 dX3_roots_123 (fun H locs hP hS => ?_)
            exact kp_retv B (by simp only [S_m_roots, if_neg q_1, if_neg q_2]; exact hP) hS rfl dX3_roots_126
          refine kp_lne (tgt := 108) hx hb dX3_roots_95 dX3_roots_96 (by decide) (fun q_3 => ?_) (fun q_3 => ?_)
          · refine lv_ldc2 (v := (2 : Int64)) hx hb hown (hw _ kw_247 rfl) dX3_roots_108 ?_
            refine lv_lload hx hb dX3_roots_111 (lv_at hl 0 rfl) ?_
            refine lv_lmul hx hb dX3_roots_113 ?_
            refine lv_lconst (v := (1 : Int64)) hx hb dX3_roots_114 (by decide) ?_
            refine lv_ladd hx hb dX3_roots_115 ?_
            exact kp_jJ (by simp only [if_neg q_3]) hJ116
          · refine lv_ldc2 (v := (2 : Int64)) hx hb hown (hw _ kw_247 rfl) dX3_roots_99 ?_
            refine lv_lload hx hb dX3_roots_102 (lv_at hl 0 rfl) ?_
            refine lv_lmul hx hb dX3_roots_104 ?_
            refine lv_goto (tgt := 116) hx hb dX3_roots_105 (by decide) ?_
            exact kp_jJ (by simp only [if_pos q_3]) hJ116
        · refine lv_aload_n hx hb dX3_roots_63 rfl (lv_at hl 1 rfl) ?_
          refine lv_ldc2 (v := mw_far) hx hb hown (hw _ kw_253 rfl) dX3_roots_64 ?_
          refine km_put8 (v := mw_far) (M' := mp_to (B_m_roots_3 c x y) mw_far) B hG hP hS rfl kw_275 dX3_roots_67 (fun H locs hP hS => ?_)
          exact kp_retv B (by simp only [S_m_roots, if_neg q_1, if_pos q_2]; exact hP) hS rfl dX3_roots_70
      refine kp_lle (tgt := 41) hx hb dX3_roots_25 dX3_roots_26 (by decide) (fun q_4 => ?_) (fun q_4 => ?_)
      · refine lv_lconst (v := (0 : Int64)) hx hb dX3_roots_41 (by decide) ?_
        exact kp_jJ (by simp only [if_pos q_4]) hJ42
      · refine lv_lload_n hx hb dX3_roots_29 rfl (lv_at hl 1 rfl) ?_
        refine lv_aload_n hx hb dX3_roots_30 rfl (lv_at hl 0 rfl) ?_
        refine kp_callVR (rm := rm_m_fine) (As := []) (rest := [.long x]) (r := some (.int (F_m_fine (B_m_roots_1 c x y)))) (st1 := [.int (F_m_fine (B_m_roots_1 c x y)), .long x]) B (C_m_fine l D ty sz G Z hG (B_m_roots_1 c x y)) kt_m_fine kw_282 kw_283 kw_284 (km_rc B hP) (by decide) ⟨rfl, rfl⟩ (by decide) rfl (Nat.le_of_ble_eq_true rfl) hl.1 hP hS dX3_roots_31 rfl ?_
        refine lv_lshl (v := x <<< ((F_m_fine (B_m_roots_1 c x y)).toInt64 &&& 63)) hx hb dX3_roots_34 rfl ?_
        refine kp_callSR (rm := rm_m_root) (As := [.long (x <<< ((F_m_fine (B_m_roots_1 c x y)).toInt64 &&& 63))]) (rest := []) (r := some (.long (F_m_root (x <<< ((F_m_fine (B_m_roots_1 c x y)).toInt64 &&& 63))))) (st1 := [.long (F_m_root (x <<< ((F_m_fine (B_m_roots_1 c x y)).toInt64 &&& 63)))]) B (C_m_root l D ty sz G Z hG (B_m_roots_1 c x y) (x <<< ((F_m_fine (B_m_roots_1 c x y)).toInt64 &&& 63))) kt_m_root kw_308 kw_309 (by decide) ⟨rfl, rfl⟩ (by decide) rfl (Nat.le_of_ble_eq_true rfl) hl.1 hP hS dX3_roots_35 rfl ?_
        refine lv_goto (tgt := 42) hx hb dX3_roots_38 (by decide) ?_
        exact kp_jJ (by simp only [if_neg q_4]) hJ42
    · exact kp_retv B (by simp only [S_m_roots, if_pos q_1]; exact hP) hS rfl dX3_roots_22
  refine kp_llt (tgt := 11) hx hb dX3_roots_3 dX3_roots_4 (by decide) (fun q_5 => ?_) (fun q_5 => ?_)
  · refine lv_iconst (v := (0 : Int32)) hx hb dX3_roots_11 (by decide) ?_
    exact kp_jI (by simp only [if_pos q_5]) hJ12
  · refine lv_iconst (v := (1 : Int32)) hx hb dX3_roots_7 (by decide) ?_
    refine lv_goto (tgt := 12) hx hb dX3_roots_8 (by decide) ?_
    exact kp_jI (by simp only [if_neg q_5]) hJ12
def B_m_sizes_1 (c : mw_C) (x : Int64) (y : Int64) : mw_C := mp_from c (if x ≤ (0 : Int64) then (if (0 : Int64) ≤ y then (0 : Int64) else -y) else x)
def S_m_sizes (c : mw_C) (x : Int64) (y : Int64) : mw_C :=
  mp_to (B_m_sizes_1 c x y) (F_m_more (-x) y)
def rm_m_sizes : Room := { frames := 1, cells := 0, slots := 0, locals := 23 }
set_option maxHeartbeats 4000000 in
set_option maxRecDepth 100000 in
theorem C_m_sizes (l : Launch) (D : va_G) (ty : List (ClassId × FieldType)) (sz : Nat) (G : mw_G) (Z : va_W) (hG : mw_ok ty sz G Z) (c : mw_C) (x : Int64) (y : Int64) : kp_M l yX3_sizes cX3_sizes 5 none rm_m_sizes D ty sz [.ref (bM G), .long x, .long y] (mw_W G c Z) (none) (mw_W G (S_m_sizes c x y) Z) := by
  refine kp_body (by decide) (Nat.le_of_ble_eq_true rfl) rfl ?_
  intro p e s m args below meth cd ls B hin hl hP hS
  obtain ⟨hx, hb, hml, hown, hlk, hr, hw, hE, hK, hsz⟩ := id B
  have hl : lv_has ls 5 [(0, .ref (bM G)), (1, .long x), (3, .long y)] := hl
  refine lv_aload_n hx hb dX3_sizes_0 rfl (lv_at hl 0 rfl) ?_
  refine lv_lload_n hx hb dX3_sizes_1 rfl (lv_at hl 1 rfl) ?_
  refine lv_lconst (v := (0 : Int64)) hx hb dX3_sizes_2 (by decide) ?_
  have hJ23 : W p l e rm_m_sizes s m args below meth cd s.heap [] 0 0 (MQ below (kp_Q D sz (none) (mw_W G (S_m_sizes c x y) Z)) args s rm_m_sizes.cells rm_m_sizes.slots (kp_A sz)) (F0 m 23 ls [.long (if x ≤ (0 : Int64) then (if (0 : Int64) ≤ y then (0 : Int64) else -y) else x), .ref (bM G)]) := by
    refine km_put7 (v := if x ≤ (0 : Int64) then (if (0 : Int64) ≤ y then (0 : Int64) else -y) else x) (M' := B_m_sizes_1 c x y) B hG hP hS rfl kw_274 dX3_sizes_23 (fun H locs hP hS => ?_)
    refine lv_aload_n hx hb dX3_sizes_26 rfl (lv_at hl 0 rfl) ?_
    refine lv_lload_n hx hb dX3_sizes_27 rfl (lv_at hl 1 rfl) ?_
    refine lv_lneg hx hb dX3_sizes_28 ?_
    refine lv_lload_n hx hb dX3_sizes_29 rfl (lv_at hl 2 rfl) ?_
    refine kp_callSR (rm := rm_m_more) (As := [.long (-x), .long y]) (rest := [.ref (bM G)]) (r := some (.long (F_m_more (-x) y))) (st1 := [.long (F_m_more (-x) y), .ref (bM G)]) B (C_m_more l D ty sz G Z hG (B_m_sizes_1 c x y) (-x) y) kt_m_more kw_312 kw_313 (by decide) ⟨rfl, rfl⟩ (by decide) rfl (Nat.le_of_ble_eq_true rfl) hl.1 hP hS dX3_sizes_30 rfl ?_
    refine km_put8 (v := F_m_more (-x) y) (M' := mp_to (B_m_sizes_1 c x y) (F_m_more (-x) y)) B hG hP hS rfl kw_275 dX3_sizes_33 (fun H locs hP hS => ?_)
    exact kp_retv B hP hS rfl dX3_sizes_36
  refine kp_lle (tgt := 11) hx hb dX3_sizes_3 dX3_sizes_4 (by decide) (fun q_1 => ?_) (fun q_1 => ?_)
  · refine lv_lload_n hx hb dX3_sizes_11 rfl (lv_at hl 2 rfl) ?_
    refine lv_lconst (v := (0 : Int64)) hx hb dX3_sizes_12 (by decide) ?_
    refine kp_lge (tgt := 22) hx hb dX3_sizes_13 dX3_sizes_14 (by decide) (fun q_2 => ?_) (fun q_2 => ?_)
    · refine lv_lconst (v := (0 : Int64)) hx hb dX3_sizes_22 (by decide) ?_
      exact kp_jJ (by simp only [if_pos q_1, if_pos q_2]) hJ23
    · refine lv_lload_n hx hb dX3_sizes_17 rfl (lv_at hl 2 rfl) ?_
      refine lv_lneg hx hb dX3_sizes_18 ?_
      refine lv_goto (tgt := 23) hx hb dX3_sizes_19 (by decide) ?_
      exact kp_jJ (by simp only [if_pos q_1, if_neg q_2]) hJ23
  · refine lv_lload_n hx hb dX3_sizes_7 rfl (lv_at hl 1 rfl) ?_
    refine lv_goto (tgt := 23) hx hb dX3_sizes_8 (by decide) ?_
    exact kp_jJ (by simp only [if_neg q_1]) hJ23
