def lw_ag (o : Option Int32) (t r : Int32) : Prop := (o = none → t = 1) ∧ ∀ v, o = some v → t = 0 ∧ r = v
/-- the class's mirrors and the reference's answer alike, and the relation lasts -/
def lw_Ag (Rel : cw_C → mw_C → Prop) : Prop := ∀ (c : cw_C) (M : mw_C), Rel c M →
  (∀ x y : Int32, F_format c x y = F_m_format M x y ∧ Rel (S_format c x y) (S_m_format M x y)) ∧
  (∀ x y z : Int32, F_set c x y z = F_m_set M x y z ∧ Rel (S_set c x y z) (S_m_set M x y z)) ∧
  (∀ x : Int32, F_clear c x = F_m_clear M x ∧ Rel (S_clear c x) (S_m_clear M x)) ∧
  (∀ x y z v : Int32, lw_ag (F_does c x y z v) (S_m_does M x y z v).1.1 (F_m_does M x y z v) ∧ Rel (lw_c (F_does c x y z v) c (S_does c x y z v)) (S_m_does M x y z v)) ∧
  (∀ x y z : Int32, lw_ag (F_part c x y z) (S_m_part M x y z).1.1 (F_m_part M x y z) ∧ Rel (lw_c (F_part c x y z) c (S_part c x y z)) (S_m_part M x y z)) ∧
  (∀ x y z : Int32, lw_ag (F_sum c x y z) (S_m_sum M x y z).1.1 (F_m_sum M x y z) ∧ Rel (lw_c (F_sum c x y z) c (S_sum c x y z)) (S_m_sum M x y z)) ∧
  (∀ x : Int32, F_kind c x = F_m_kind M x ∧ Rel c (S_m_kind M x)) ∧
  (∀ x : Int32, lw_ag (F_low c x) (S_m_low M x).1.1 (F_m_low M x) ∧ Rel (lw_c (F_low c x) c c) (S_m_low M x)) ∧
  (∀ x : Int32, lw_ag (F_high c x) (S_m_high M x).1.1 (F_m_high M x) ∧ Rel (lw_c (F_high c x) c c) (S_m_high M x)) ∧
  (∀ x : Int32, lw_ag (F_middle c x) (S_m_middle M x).1.1 (F_m_middle M x) ∧ Rel (lw_c (F_middle c x) c c) (S_m_middle M x)) ∧
  (∀ x : Int32, lw_ag (F_width c x) (S_m_width M x).1.1 (F_m_width M x) ∧ Rel (lw_c (F_width c x) c c) (S_m_width M x)) ∧
  (∀ x y : Int32, F_compare c x y = F_m_compare M x y ∧ Rel c (S_m_compare M x y)) ∧
  (∀ x y : Int32, F_has c x y = F_m_has M x y ∧ Rel c (S_m_has M x y))
theorem lw_ik1 (j : Nat) : nI j + 1 = nI (j + 1) := nI_add j 1
theorem lw_ik2 (j : Nat) : nI j + 2 = nI (j + 2) := nI_add j 2
theorem lw_ik3 (j : Nat) : nI j + 3 = nI (j + 3) := nI_add j 3
theorem lw_ik4 (j : Nat) : nI j + 4 = nI (j + 4) := nI_add j 4
theorem lw_ik5 (j : Nat) : nI j + 5 = nI (j + 5) := nI_add j 5
theorem lw_threq {o : Option Int32} {t r : Int32} (h : lw_ag o t r) : t = lw_k o := by
  cases o with
  | none => exact h.1 rfl
  | some v => exact (h.2 v rfl).1
theorem lw_outeq {o : Option Int32} {t r : Int32} {f : Nat → Int64} (h : lw_ag o t r) (q : lw_k o = 0) : (lw_f o f) (0 : Int32).toNatClampNeg = r.toInt64 := by
  cases o with
  | none => exact absurd q (by decide)
  | some v => rw [(h.2 v rfl).2]; exact pk_uLs
theorem lw_go {L j : Nat} (hL : L ≤ 2560) (hj : j ≤ 2560) (q : ¬ (nI L - 5) < nI j) : j + 5 ≤ L := by
  have h := Int32.not_lt.mp q
  rw [Int32.le_iff_toInt_le, show (5 : Int32) = nI 5 from rfl, pk_sub_toInt (by omega) (by omega), nI_toInt (by omega)] at h
  omega
theorem lw_arg {p : Program} {l : Launch} {e : Env} {R : Room} {s : State} {m : MethodId} {args : Array Value} {below : List Frame} {meth : Method} {cd : Code} {H : Heap} {locs : List Loc} {cells slots : Nat} {Q : State → Prop} {cc : ByteArray} {pc : Nat} {ls : Array Slot} {rest : List Value} {A : Nat → Prop} {b L : Nat} {xs : Nat → Int32} {j k : Nat} {i : Int32}
    (hx : p.tables.exec = Jvm.exec) (hb : cd.code = cc) (hX : va_X b L xs s s.heap) (hbl : b < s.heap.size) (hbA : ¬ A b) (hS : va_S A s.heap H locs) (hj : j + k < L) (hL : L ≤ 2560) (hi : i = nI (j + k)) (hdg : decode cc pc = .ok (.iaload, 1))
    (kk : W p l e R s m args below meth cd H locs cells slots Q (F0 m (pc + 1) ls (.int (xs (j + k)) :: rest))) : W p l e R s m args below meth cd H locs cells slots Q (F0 m pc ls (.int i :: .ref b :: rest)) := by
  subst hi
  refine va_sld hx hb hX hbl hbA hS (vp_in_nI hj (by omega)) hdg ?_
  rw [nI_clamp (by omega)]
  exact kk
theorem lw_out13 {x : Int32} (h0 : ¬ x = 0) (h1 : ¬ x = 1) (h2 : ¬ x = 2) (h3 : ¬ x = 3) (h4 : ¬ x = 4) (h5 : ¬ x = 5) (h6 : ¬ x = 6) (h7 : ¬ x = 7) (h8 : ¬ x = 8) (h9 : ¬ x = 9) (h10 : ¬ x = 10) (h11 : ¬ x = 11) (h12 : ¬ x = 12) : x.toInt < 0 ∨ 12 < x.toInt := by
  have a0 : x.toInt ≠ 0 := fun h => h0 (Int32.toInt_inj.mp h)
  have a1 : x.toInt ≠ 1 := fun h => h1 (Int32.toInt_inj.mp h)
  have a2 : x.toInt ≠ 2 := fun h => h2 (Int32.toInt_inj.mp h)
  have a3 : x.toInt ≠ 3 := fun h => h3 (Int32.toInt_inj.mp h)
  have a4 : x.toInt ≠ 4 := fun h => h4 (Int32.toInt_inj.mp h)
  have a5 : x.toInt ≠ 5 := fun h => h5 (Int32.toInt_inj.mp h)
  have a6 : x.toInt ≠ 6 := fun h => h6 (Int32.toInt_inj.mp h)
  have a7 : x.toInt ≠ 7 := fun h => h7 (Int32.toInt_inj.mp h)
  have a8 : x.toInt ≠ 8 := fun h => h8 (Int32.toInt_inj.mp h)
  have a9 : x.toInt ≠ 9 := fun h => h9 (Int32.toInt_inj.mp h)
  have a10 : x.toInt ≠ 10 := fun h => h10 (Int32.toInt_inj.mp h)
  have a11 : x.toInt ≠ 11 := fun h => h11 (Int32.toInt_inj.mp h)
  have a12 : x.toInt ≠ 12 := fun h => h12 (Int32.toInt_inj.mp h)
  omega
set_option maxHeartbeats 4000000 in
set_option maxRecDepth 100000 in
theorem law_loop {Rel : cw_C → mw_C → Prop} (hAg : lw_Ag Rel) {p : Program} {l : Launch} {e : Env} {s : State} {m : MethodId} {below : List Frame} {meth : Method} {cd : Code} {D : va_G} {b L : Nat} {xs : Nat → Int32} (hL : L ≤ 2560) (C0 : lw_At p s m meth cd b L xs) (htr : l.stackTraces = false)
    {ty : List (ClassId × FieldType)} {G : cw_G} {Gm : mw_G} {aO : Nat} (hG : lw_ok ty s.heap.size G Gm aO) (hK : va_K D vwCl ty s) (hH0 : ∀ U : State, s.vm.Alike U.vm → (∀ q, q < s.heap.size → U.heap[q]? = s.heap[q]?) → kx_H U) :
    ∀ (n t : Nat) (c : cw_C) (M : mw_C) (f : Nat → Int64) (H : Heap) (locs : List Loc) (cells slots : Nat), t ≤ 512 → 513 ≤ t + n → cells ≤ 100 + t → slots ≤ 200 + 6 * t → Rel c M → va_P D vwCl (lw_W G c Gm M aO f) H → va_S (kp_A s.heap.size) s.heap H locs →
      ∀ ls : Array Slot, lv_has ls 7 [(0, .ref b), (1, .ref (aD G)), (2, .ref (bM Gm)), (3, .ref aO), (4, .int (nI (5 * t)))] → W p l e room_1 s m #[Value.ref b] below meth cd H locs cells slots (lw_Z below #[Value.ref b] s) (F0 m 23 ls []) := by
  obtain ⟨hx, hb, hr, hml, hown, hts, hX, hbl, hlocks, hgv⟩ := C0
  have hE : kp_E s := kp_E.of hts
  have B : kp_B p l s m #[Value.ref b] meth cd RL cL_law 7 ret D ty s.heap.size := ⟨hx, hb, hml, hown, hlocks, hr, hE.use, hE, hK, Nat.le_refl _⟩
  have hbA : ¬ (kp_A s.heap.size) b := Nat.not_le.mpr hbl
  intro n
  induction n with
  | zero =>
    intro t c M f H locs cells slots h1 h2
    exact absurd h2 (by omega)
  | succ n ih =>
    intro t c M f H locs cells slots ht hn hce hsl hRel hP hS ls hl
    have hcc : ∀ {a1 a2 : Nat}, a1 ≤ 674445 → a2 ≤ 7072768 → a1 ≤ room_1.cells ∧ a2 ≤ room_1.slots := fun h1 h2 => ⟨h1, h2⟩
    refine lv_iload hx hb dL_law_23 (lv_at hl 4 rfl) ?_
    refine lv_aload_n hx hb dL_law_25 rfl (lv_at hl 0 rfl) ?_
    refine va_slen hx hb hX hbl hbA hS dL_law_26 ?_
    refine lv_iconst (v := 5) hx hb dL_law_27 (by decide) ?_
    refine lv_isub hx hb dL_law_28 ?_
    refine lv_icmp_gt (tgt := 796) hx hb dL_law_29 (by decide) (fun q0 => ?_) (fun q0 => ?_)
    · refine lv_iconst (v := 1) hx hb dL_law_796 (by decide) ?_
      refine va_forget (fun q hq => hS.2.2 q hq) ?_
      refine W.widen (k := 674445) (n := 7072768) (by omega) (by omega) ?_
      exact lw_ret hx hb hr hlocks dL_law_797
    · have hlt : 5 * t + 5 ≤ L := lw_go hL (by omega) q0
      have hN : ∀ (c : cw_C) (M : mw_C) (f : Nat → Int64) (H : Heap) (locs : List Loc) (cells slots : Nat), Rel c M → va_P D vwCl (lw_W G c Gm M aO f) H → va_S (kp_A s.heap.size) s.heap H locs → cells ≤ 100 + (t + 1) → slots ≤ 200 + 6 * (t + 1) → ∀ ls : Array Slot, lv_has ls 7 [(0, .ref b), (1, .ref (aD G)), (2, .ref (bM Gm)), (3, .ref aO), (4, .int (nI (5 * t)))] → W p l e room_1 s m #[Value.ref b] below meth cd H locs cells slots (lw_Z below #[Value.ref b] s) (F0 m 790 ls []) := by
        intro c M f H locs cells slots hRel hP hS hce hsl ls hl
        refine lv_iinc (v := nI (5 * (t + 1))) (lv' := [(4, .int (nI (5 * (t + 1)))), (0, .ref b), (1, .ref (aD G)), (2, .ref (bM Gm)), (3, .ref aO)]) hx hb dL_law_790 hl (k := 4) rfl (lw_ik5 (5 * t)) (by decide) rfl (fun ls hl => ?_)
        refine lv_goto (tgt := 23) hx hb dL_law_793 (by decide) ?_
        exact ih (t + 1) c M f H locs cells slots (by omega) (by omega) hce hsl hRel hP hS ls (lv_sub hl [1, 2, 3, 4, 0] rfl)
      refine lv_aload_n hx hb dL_law_32 rfl (lv_at hl 0 rfl) ?_
      refine lv_iload hx hb dL_law_33 (lv_at hl 4 rfl) ?_
      refine lw_arg (j := 5 * t) (k := 0) hx hb hX hbl hbA hS (by omega) hL rfl dL_law_35 ?_
      refine lv_bipush (v := 15) hx hb dL_law_36 (by decide) ?_
      refine lv_iand hx hb dL_law_38 ?_
      generalize xs (5 * t + 0) &&& 15 = w9
      by_cases h0 : w9 = 0
      · refine lv_tableIn (tgt := 104) hx hb dL_law_39 (by rw [h0]; decide) (by rw [h0]; decide) (by rw [h0]; rfl) (by decide) ?_
        have hag := (hAg c M hRel).1 (xs (5 * t + 1)) (xs (5 * t + 2))
        refine lv_aload_n hx hb dL_law_104 rfl (lv_at hl 1 rfl) ?_
        refine lv_aload_n hx hb dL_law_105 rfl (lv_at hl 0 rfl) ?_
        refine lv_iload hx hb dL_law_106 (lv_at hl 4 rfl) ?_
        refine lv_iconst (v := 1) hx hb dL_law_108 (by decide) ?_
        refine lv_iadd hx hb dL_law_109 ?_
        refine lw_arg (k := 1) hx hb hX hbl hbA hS (by omega) hL (lw_ik1 _) dL_law_110 ?_
        refine lv_aload_n hx hb dL_law_111 rfl (lv_at hl 0 rfl) ?_
        refine lv_iload hx hb dL_law_112 (lv_at hl 4 rfl) ?_
        refine lv_iconst (v := 2) hx hb dL_law_114 (by decide) ?_
        refine lv_iadd hx hb dL_law_115 ?_
        refine lw_arg (k := 2) hx hb hX hbl hbA hS (by omega) hL (lw_ik2 _) dL_law_116 ?_
        refine kp_callV (cells1 := cells) (slots1 := slots) (rm := rm_format) (As := [.int (xs (5 * t + 1)), .int (xs (5 * t + 2))]) (rest := []) (r := some (.int (F_format c (xs (5 * t + 1)) (xs (5 * t + 2))))) (st1 := [.int (F_format c (xs (5 * t + 1)) (xs (5 * t + 2)))]) (ws' := (cw_W G (S_format c (xs (5 * t + 1)) (xs (5 * t + 2))) (mw_W Gm M [lw_o1 Gm aO f]))) B (C_format l D ty s.heap.size G (mw_W Gm M [lw_o1 Gm aO f]) (hG.c M f) c (xs (5 * t + 1)) (xs (5 * t + 2))) kt_format9 kw_452 kw_453 kw_454 (kc_rcD B hP) (by decide) rfl rfl (hcc (by omega) (by omega)) rfl (Nat.le_of_ble_eq_true rfl) hl.1 hP hS dL_law_117 rfl (fun H locs hP hS => ?_)
        have hP : va_P D vwCl (lw_W G (S_format c (xs (5 * t + 1)) (xs (5 * t + 2))) Gm M aO f) H := hP
        refine lv_aload_n hx hb dL_law_120 rfl (lv_at hl 2 rfl) ?_
        refine lv_aload_n hx hb dL_law_121 rfl (lv_at hl 0 rfl) ?_
        refine lv_iload hx hb dL_law_122 (lv_at hl 4 rfl) ?_
        refine lv_iconst (v := 1) hx hb dL_law_124 (by decide) ?_
        refine lv_iadd hx hb dL_law_125 ?_
        refine lw_arg (k := 1) hx hb hX hbl hbA hS (by omega) hL (lw_ik1 _) dL_law_126 ?_
        refine lv_aload_n hx hb dL_law_127 rfl (lv_at hl 0 rfl) ?_
        refine lv_iload hx hb dL_law_128 (lv_at hl 4 rfl) ?_
        refine lv_iconst (v := 2) hx hb dL_law_130 (by decide) ?_
        refine lv_iadd hx hb dL_law_131 ?_
        refine lw_arg (k := 2) hx hb hX hbl hbA hS (by omega) hL (lw_ik2 _) dL_law_132 ?_
        refine kp_callV (cells1 := cells) (slots1 := slots) (rm := rm_m_format) (As := [.int (xs (5 * t + 1)), .int (xs (5 * t + 2))]) (rest := [.int (F_format c (xs (5 * t + 1)) (xs (5 * t + 2)))]) (r := some (.int (F_m_format M (xs (5 * t + 1)) (xs (5 * t + 2))))) (st1 := [.int (F_m_format M (xs (5 * t + 1)) (xs (5 * t + 2))), .int (F_format c (xs (5 * t + 1)) (xs (5 * t + 2)))]) (ws' := (mw_W Gm (S_m_format M (xs (5 * t + 1)) (xs (5 * t + 2))) (cw_W G (S_format c (xs (5 * t + 1)) (xs (5 * t + 2))) [lw_o1 Gm aO f]))) B (C_m_format l D ty s.heap.size Gm (cw_W G (S_format c (xs (5 * t + 1)) (xs (5 * t + 2))) [lw_o1 Gm aO f]) (hG.m (S_format c (xs (5 * t + 1)) (xs (5 * t + 2))) f) M (xs (5 * t + 1)) (xs (5 * t + 2))) kt_m_format9 kw_457 kw_458 kw_459 (km_rc B (lw_toM hP)) (by decide) rfl rfl (hcc (by omega) (by omega)) rfl (Nat.le_of_ble_eq_true rfl) hl.1 (lw_toM hP) hS dL_law_133 rfl (fun H locs hP hS => ?_)
        have hP : va_P D vwCl (lw_W G (S_format c (xs (5 * t + 1)) (xs (5 * t + 2))) Gm (S_m_format M (xs (5 * t + 1)) (xs (5 * t + 2))) aO f) H := lw_toC hP
        refine lv_icmp_eq (tgt := 790) hx hb dL_law_136 (by decide) (fun q9 => ?_) (fun q9 => absurd ?_ q9)
        · exact hN (S_format c (xs (5 * t + 1)) (xs (5 * t + 2))) (S_m_format M (xs (5 * t + 1)) (xs (5 * t + 2))) f H locs cells slots hag.2 hP hS (by omega) (by omega) ls (lv_sub hl [0, 1, 2, 3, 4] rfl)
        · exact hag.1
      by_cases h1 : w9 = 1
      · refine lv_tableIn (tgt := 141) hx hb dL_law_39 (by rw [h1]; decide) (by rw [h1]; decide) (by rw [h1]; rfl) (by decide) ?_
        have hag := (hAg c M hRel).2.1 (xs (5 * t + 1)) (xs (5 * t + 2)) (xs (5 * t + 3))
        refine lv_aload_n hx hb dL_law_141 rfl (lv_at hl 1 rfl) ?_
        refine lv_aload_n hx hb dL_law_142 rfl (lv_at hl 0 rfl) ?_
        refine lv_iload hx hb dL_law_143 (lv_at hl 4 rfl) ?_
        refine lv_iconst (v := 1) hx hb dL_law_145 (by decide) ?_
        refine lv_iadd hx hb dL_law_146 ?_
        refine lw_arg (k := 1) hx hb hX hbl hbA hS (by omega) hL (lw_ik1 _) dL_law_147 ?_
        refine lv_aload_n hx hb dL_law_148 rfl (lv_at hl 0 rfl) ?_
        refine lv_iload hx hb dL_law_149 (lv_at hl 4 rfl) ?_
        refine lv_iconst (v := 2) hx hb dL_law_151 (by decide) ?_
        refine lv_iadd hx hb dL_law_152 ?_
        refine lw_arg (k := 2) hx hb hX hbl hbA hS (by omega) hL (lw_ik2 _) dL_law_153 ?_
        refine lv_aload_n hx hb dL_law_154 rfl (lv_at hl 0 rfl) ?_
        refine lv_iload hx hb dL_law_155 (lv_at hl 4 rfl) ?_
        refine lv_iconst (v := 3) hx hb dL_law_157 (by decide) ?_
        refine lv_iadd hx hb dL_law_158 ?_
        refine lw_arg (k := 3) hx hb hX hbl hbA hS (by omega) hL (lw_ik3 _) dL_law_159 ?_
        refine kp_callV (cells1 := cells) (slots1 := slots) (rm := rm_set) (As := [.int (xs (5 * t + 1)), .int (xs (5 * t + 2)), .int (xs (5 * t + 3))]) (rest := []) (r := some (.int (F_set c (xs (5 * t + 1)) (xs (5 * t + 2)) (xs (5 * t + 3))))) (st1 := [.int (F_set c (xs (5 * t + 1)) (xs (5 * t + 2)) (xs (5 * t + 3)))]) (ws' := (cw_W G (S_set c (xs (5 * t + 1)) (xs (5 * t + 2)) (xs (5 * t + 3))) (mw_W Gm M [lw_o1 Gm aO f]))) B (C_set l D ty s.heap.size G (mw_W Gm M [lw_o1 Gm aO f]) (hG.c M f) c (xs (5 * t + 1)) (xs (5 * t + 2)) (xs (5 * t + 3))) kt_set9 kw_462 kw_463 kw_464 (kc_rcD B hP) (by decide) rfl rfl (hcc (by omega) (by omega)) rfl (Nat.le_of_ble_eq_true rfl) hl.1 hP hS dL_law_160 rfl (fun H locs hP hS => ?_)
        have hP : va_P D vwCl (lw_W G (S_set c (xs (5 * t + 1)) (xs (5 * t + 2)) (xs (5 * t + 3))) Gm M aO f) H := hP
        refine lv_aload_n hx hb dL_law_163 rfl (lv_at hl 2 rfl) ?_
        refine lv_aload_n hx hb dL_law_164 rfl (lv_at hl 0 rfl) ?_
        refine lv_iload hx hb dL_law_165 (lv_at hl 4 rfl) ?_
        refine lv_iconst (v := 1) hx hb dL_law_167 (by decide) ?_
        refine lv_iadd hx hb dL_law_168 ?_
        refine lw_arg (k := 1) hx hb hX hbl hbA hS (by omega) hL (lw_ik1 _) dL_law_169 ?_
        refine lv_aload_n hx hb dL_law_170 rfl (lv_at hl 0 rfl) ?_
        refine lv_iload hx hb dL_law_171 (lv_at hl 4 rfl) ?_
        refine lv_iconst (v := 2) hx hb dL_law_173 (by decide) ?_
        refine lv_iadd hx hb dL_law_174 ?_
        refine lw_arg (k := 2) hx hb hX hbl hbA hS (by omega) hL (lw_ik2 _) dL_law_175 ?_
        refine lv_aload_n hx hb dL_law_176 rfl (lv_at hl 0 rfl) ?_
        refine lv_iload hx hb dL_law_177 (lv_at hl 4 rfl) ?_
        refine lv_iconst (v := 3) hx hb dL_law_179 (by decide) ?_
        refine lv_iadd hx hb dL_law_180 ?_
        refine lw_arg (k := 3) hx hb hX hbl hbA hS (by omega) hL (lw_ik3 _) dL_law_181 ?_
        refine kp_callV (cells1 := cells) (slots1 := slots) (rm := rm_m_set) (As := [.int (xs (5 * t + 1)), .int (xs (5 * t + 2)), .int (xs (5 * t + 3))]) (rest := [.int (F_set c (xs (5 * t + 1)) (xs (5 * t + 2)) (xs (5 * t + 3)))]) (r := some (.int (F_m_set M (xs (5 * t + 1)) (xs (5 * t + 2)) (xs (5 * t + 3))))) (st1 := [.int (F_m_set M (xs (5 * t + 1)) (xs (5 * t + 2)) (xs (5 * t + 3))), .int (F_set c (xs (5 * t + 1)) (xs (5 * t + 2)) (xs (5 * t + 3)))]) (ws' := (mw_W Gm (S_m_set M (xs (5 * t + 1)) (xs (5 * t + 2)) (xs (5 * t + 3))) (cw_W G (S_set c (xs (5 * t + 1)) (xs (5 * t + 2)) (xs (5 * t + 3))) [lw_o1 Gm aO f]))) B (C_m_set l D ty s.heap.size Gm (cw_W G (S_set c (xs (5 * t + 1)) (xs (5 * t + 2)) (xs (5 * t + 3))) [lw_o1 Gm aO f]) (hG.m (S_set c (xs (5 * t + 1)) (xs (5 * t + 2)) (xs (5 * t + 3))) f) M (xs (5 * t + 1)) (xs (5 * t + 2)) (xs (5 * t + 3))) kt_m_set9 kw_467 kw_468 kw_469 (km_rc B (lw_toM hP)) (by decide) rfl rfl (hcc (by omega) (by omega)) rfl (Nat.le_of_ble_eq_true rfl) hl.1 (lw_toM hP) hS dL_law_182 rfl (fun H locs hP hS => ?_)
        have hP : va_P D vwCl (lw_W G (S_set c (xs (5 * t + 1)) (xs (5 * t + 2)) (xs (5 * t + 3))) Gm (S_m_set M (xs (5 * t + 1)) (xs (5 * t + 2)) (xs (5 * t + 3))) aO f) H := lw_toC hP
        refine lv_icmp_eq (tgt := 790) hx hb dL_law_185 (by decide) (fun q9 => ?_) (fun q9 => absurd ?_ q9)
        · exact hN (S_set c (xs (5 * t + 1)) (xs (5 * t + 2)) (xs (5 * t + 3))) (S_m_set M (xs (5 * t + 1)) (xs (5 * t + 2)) (xs (5 * t + 3))) f H locs cells slots hag.2 hP hS (by omega) (by omega) ls (lv_sub hl [0, 1, 2, 3, 4] rfl)
        · exact hag.1
      by_cases h2 : w9 = 2
      · refine lv_tableIn (tgt := 190) hx hb dL_law_39 (by rw [h2]; decide) (by rw [h2]; decide) (by rw [h2]; rfl) (by decide) ?_
        have hag := (hAg c M hRel).2.2.1 (xs (5 * t + 1))
        refine lv_aload_n hx hb dL_law_190 rfl (lv_at hl 1 rfl) ?_
        refine lv_aload_n hx hb dL_law_191 rfl (lv_at hl 0 rfl) ?_
        refine lv_iload hx hb dL_law_192 (lv_at hl 4 rfl) ?_
        refine lv_iconst (v := 1) hx hb dL_law_194 (by decide) ?_
        refine lv_iadd hx hb dL_law_195 ?_
        refine lw_arg (k := 1) hx hb hX hbl hbA hS (by omega) hL (lw_ik1 _) dL_law_196 ?_
        refine kp_callV (cells1 := cells) (slots1 := slots) (rm := rm_clear) (As := [.int (xs (5 * t + 1))]) (rest := []) (r := some (.int (F_clear c (xs (5 * t + 1))))) (st1 := [.int (F_clear c (xs (5 * t + 1)))]) (ws' := (cw_W G (S_clear c (xs (5 * t + 1))) (mw_W Gm M [lw_o1 Gm aO f]))) B (C_clear l D ty s.heap.size G (mw_W Gm M [lw_o1 Gm aO f]) (hG.c M f) c (xs (5 * t + 1))) kt_clear9 kw_472 kw_473 kw_474 (kc_rcD B hP) (by decide) rfl rfl (hcc (by omega) (by omega)) rfl (Nat.le_of_ble_eq_true rfl) hl.1 hP hS dL_law_197 rfl (fun H locs hP hS => ?_)
        have hP : va_P D vwCl (lw_W G (S_clear c (xs (5 * t + 1))) Gm M aO f) H := hP
        refine lv_aload_n hx hb dL_law_200 rfl (lv_at hl 2 rfl) ?_
        refine lv_aload_n hx hb dL_law_201 rfl (lv_at hl 0 rfl) ?_
        refine lv_iload hx hb dL_law_202 (lv_at hl 4 rfl) ?_
        refine lv_iconst (v := 1) hx hb dL_law_204 (by decide) ?_
        refine lv_iadd hx hb dL_law_205 ?_
        refine lw_arg (k := 1) hx hb hX hbl hbA hS (by omega) hL (lw_ik1 _) dL_law_206 ?_
        refine kp_callV (cells1 := cells) (slots1 := slots) (rm := rm_m_clear) (As := [.int (xs (5 * t + 1))]) (rest := [.int (F_clear c (xs (5 * t + 1)))]) (r := some (.int (F_m_clear M (xs (5 * t + 1))))) (st1 := [.int (F_m_clear M (xs (5 * t + 1))), .int (F_clear c (xs (5 * t + 1)))]) (ws' := (mw_W Gm (S_m_clear M (xs (5 * t + 1))) (cw_W G (S_clear c (xs (5 * t + 1))) [lw_o1 Gm aO f]))) B (C_m_clear l D ty s.heap.size Gm (cw_W G (S_clear c (xs (5 * t + 1))) [lw_o1 Gm aO f]) (hG.m (S_clear c (xs (5 * t + 1))) f) M (xs (5 * t + 1))) kt_m_clear9 kw_477 kw_478 kw_479 (km_rc B (lw_toM hP)) (by decide) rfl rfl (hcc (by omega) (by omega)) rfl (Nat.le_of_ble_eq_true rfl) hl.1 (lw_toM hP) hS dL_law_207 rfl (fun H locs hP hS => ?_)
        have hP : va_P D vwCl (lw_W G (S_clear c (xs (5 * t + 1))) Gm (S_m_clear M (xs (5 * t + 1))) aO f) H := lw_toC hP
        refine lv_icmp_eq (tgt := 790) hx hb dL_law_210 (by decide) (fun q9 => ?_) (fun q9 => absurd ?_ q9)
        · exact hN (S_clear c (xs (5 * t + 1))) (S_m_clear M (xs (5 * t + 1))) f H locs cells slots hag.2 hP hS (by omega) (by omega) ls (lv_sub hl [0, 1, 2, 3, 4] rfl)
        · exact hag.1
      by_cases h3 : w9 = 3
      · refine lv_tableIn (tgt := 215) hx hb dL_law_39 (by rw [h3]; decide) (by rw [h3]; decide) (by rw [h3]; rfl) (by decide) ?_
        have hag := (hAg c M hRel).2.2.2.1 (xs (5 * t + 1)) (xs (5 * t + 2)) (xs (5 * t + 3)) (xs (5 * t + 4))
        refine lv_aload_n hx hb dL_law_215 rfl (lv_at hl 1 rfl) ?_
        refine lv_aload_n hx hb dL_law_216 rfl (lv_at hl 0 rfl) ?_
        refine lv_iload hx hb dL_law_217 (lv_at hl 4 rfl) ?_
        refine lv_iconst (v := 1) hx hb dL_law_219 (by decide) ?_
        refine lv_iadd hx hb dL_law_220 ?_
        refine lw_arg (k := 1) hx hb hX hbl hbA hS (by omega) hL (lw_ik1 _) dL_law_221 ?_
        refine lv_aload_n hx hb dL_law_222 rfl (lv_at hl 0 rfl) ?_
        refine lv_iload hx hb dL_law_223 (lv_at hl 4 rfl) ?_
        refine lv_iconst (v := 2) hx hb dL_law_225 (by decide) ?_
        refine lv_iadd hx hb dL_law_226 ?_
        refine lw_arg (k := 2) hx hb hX hbl hbA hS (by omega) hL (lw_ik2 _) dL_law_227 ?_
        refine lv_aload_n hx hb dL_law_228 rfl (lv_at hl 0 rfl) ?_
        refine lv_iload hx hb dL_law_229 (lv_at hl 4 rfl) ?_
        refine lv_iconst (v := 3) hx hb dL_law_231 (by decide) ?_
        refine lv_iadd hx hb dL_law_232 ?_
        refine lw_arg (k := 3) hx hb hX hbl hbA hS (by omega) hL (lw_ik3 _) dL_law_233 ?_
        refine lv_aload_n hx hb dL_law_234 rfl (lv_at hl 0 rfl) ?_
        refine lv_iload hx hb dL_law_235 (lv_at hl 4 rfl) ?_
        refine lv_iconst (v := 4) hx hb dL_law_237 (by decide) ?_
        refine lv_iadd hx hb dL_law_238 ?_
        refine lw_arg (k := 4) hx hb hX hbl hbA hS (by omega) hL (lw_ik4 _) dL_law_239 ?_
        refine lv_aload_n hx hb dL_law_240 rfl (lv_at hl 3 rfl) ?_
        refine kw_callS (cells1 := cells + 1) (slots1 := slots + 6) (rm := rmW_does) (As := [.ref (aD G), .int (xs (5 * t + 1)), .int (xs (5 * t + 2)), .int (xs (5 * t + 3)), .int (xs (5 * t + 4)), .ref aO]) (rest := []) (r := some (.int (lw_k (F_does c (xs (5 * t + 1)) (xs (5 * t + 2)) (xs (5 * t + 3)) (xs (5 * t + 4)))))) (st1 := [.int (lw_k (F_does c (xs (5 * t + 1)) (xs (5 * t + 2)) (xs (5 * t + 3)) (xs (5 * t + 4))))]) (ws' := lw_W G (lw_c (F_does c (xs (5 * t + 1)) (xs (5 * t + 2)) (xs (5 * t + 3)) (xs (5 * t + 4))) c (S_does c (xs (5 * t + 1)) (xs (5 * t + 2)) (xs (5 * t + 3)) (xs (5 * t + 4)))) Gm M aO (lw_f (F_does c (xs (5 * t + 1)) (xs (5 * t + 2)) (xs (5 * t + 3)) (xs (5 * t + 4))) f)) B (CW_does l D ty s.heap.size G Gm M aO f hG c (xs (5 * t + 1)) (xs (5 * t + 2)) (xs (5 * t + 3)) (xs (5 * t + 4)) htr) kw_480 kw_481 kwy_does kw_482 kw_483 (fun U hU hA => hH0 U hA (fun z hz => by rw [hU]; exact hS.2.1 z hz (Nat.not_le.mpr hz))) (by decide) rfl rfl (hcc (by omega) (by omega)) rfl (Nat.le_of_ble_eq_true rfl) hl.1 hP hS dL_law_241 rfl (fun H locs hP hS => ?_)
        refine lv_istore (lv' := [(5, .int (lw_k (F_does c (xs (5 * t + 1)) (xs (5 * t + 2)) (xs (5 * t + 3)) (xs (5 * t + 4))))), (0, .ref b), (1, .ref (aD G)), (2, .ref (bM Gm)), (3, .ref aO), (4, .int (nI (5 * t)))]) hx hb dL_law_244 hl (by decide) rfl (fun ls hl => ?_)
        refine lv_aload_n hx hb dL_law_246 rfl (lv_at hl 3 rfl) ?_
        refine lv_aload_n hx hb dL_law_247 rfl (lv_at hl 1 rfl) ?_
        refine lv_iload hx hb dL_law_248 (lv_at hl 5 rfl) ?_
        refine lv_iconst (v := 1) hx hb dL_law_250 (by decide) ?_
        refine lv_iadd hx hb dL_law_251 ?_
        refine lw_arg (k := 1) hx hb hX hbl hbA hS (by omega) hL (lw_ik1 _) dL_law_252 ?_
        refine lv_aload_n hx hb dL_law_253 rfl (lv_at hl 1 rfl) ?_
        refine lv_iload hx hb dL_law_254 (lv_at hl 5 rfl) ?_
        refine lv_iconst (v := 2) hx hb dL_law_256 (by decide) ?_
        refine lv_iadd hx hb dL_law_257 ?_
        refine lw_arg (k := 2) hx hb hX hbl hbA hS (by omega) hL (lw_ik2 _) dL_law_258 ?_
        refine lv_aload_n hx hb dL_law_259 rfl (lv_at hl 1 rfl) ?_
        refine lv_iload hx hb dL_law_260 (lv_at hl 5 rfl) ?_
        refine lv_iconst (v := 3) hx hb dL_law_262 (by decide) ?_
        refine lv_iadd hx hb dL_law_263 ?_
        refine lw_arg (k := 3) hx hb hX hbl hbA hS (by omega) hL (lw_ik3 _) dL_law_264 ?_
        refine lv_aload_n hx hb dL_law_265 rfl (lv_at hl 1 rfl) ?_
        refine lv_iload hx hb dL_law_266 (lv_at hl 5 rfl) ?_
        refine lv_iconst (v := 4) hx hb dL_law_268 (by decide) ?_
        refine lv_iadd hx hb dL_law_269 ?_
        refine lw_arg (k := 4) hx hb hX hbl hbA hS (by omega) hL (lw_ik4 _) dL_law_270 ?_
        refine kp_callV (cells1 := cells + 1) (slots1 := slots + 6) (rm := rm_m_does) (As := [.int (xs (5 * t + 1)), .int (xs (5 * t + 2)), .int (xs (5 * t + 3)), .int (xs (5 * t + 4))]) (rest := []) (r := some (.int (F_m_does M (xs (5 * t + 1)) (xs (5 * t + 2)) (xs (5 * t + 3)) (xs (5 * t + 4))))) (st1 := [.int (F_m_does M (xs (5 * t + 1)) (xs (5 * t + 2)) (xs (5 * t + 3)) (xs (5 * t + 4)))]) (ws' := (mw_W Gm (S_m_does M (xs (5 * t + 1)) (xs (5 * t + 2)) (xs (5 * t + 3)) (xs (5 * t + 4))) (cw_W G (lw_c (F_does c (xs (5 * t + 1)) (xs (5 * t + 2)) (xs (5 * t + 3)) (xs (5 * t + 4))) c (S_does c (xs (5 * t + 1)) (xs (5 * t + 2)) (xs (5 * t + 3)) (xs (5 * t + 4)))) [lw_o1 Gm aO (lw_f (F_does c (xs (5 * t + 1)) (xs (5 * t + 2)) (xs (5 * t + 3)) (xs (5 * t + 4))) f)]))) B (C_m_does l D ty s.heap.size Gm (cw_W G (lw_c (F_does c (xs (5 * t + 1)) (xs (5 * t + 2)) (xs (5 * t + 3)) (xs (5 * t + 4))) c (S_does c (xs (5 * t + 1)) (xs (5 * t + 2)) (xs (5 * t + 3)) (xs (5 * t + 4)))) [lw_o1 Gm aO (lw_f (F_does c (xs (5 * t + 1)) (xs (5 * t + 2)) (xs (5 * t + 3)) (xs (5 * t + 4))) f)]) (hG.m (lw_c (F_does c (xs (5 * t + 1)) (xs (5 * t + 2)) (xs (5 * t + 3)) (xs (5 * t + 4))) c (S_does c (xs (5 * t + 1)) (xs (5 * t + 2)) (xs (5 * t + 3)) (xs (5 * t + 4)))) (lw_f (F_does c (xs (5 * t + 1)) (xs (5 * t + 2)) (xs (5 * t + 3)) (xs (5 * t + 4))) f)) M (xs (5 * t + 1)) (xs (5 * t + 2)) (xs (5 * t + 3)) (xs (5 * t + 4))) kt_m_does9 kw_486 kw_487 kw_488 (km_rc B (lw_toM hP)) (by decide) rfl rfl (hcc (by omega) (by omega)) rfl (Nat.le_of_ble_eq_true rfl) hl.1 (lw_toM hP) hS dL_law_271 rfl (fun H locs hP hS => ?_)
        have hP : va_P D vwCl (lw_W G (lw_c (F_does c (xs (5 * t + 1)) (xs (5 * t + 2)) (xs (5 * t + 3)) (xs (5 * t + 4))) c (S_does c (xs (5 * t + 1)) (xs (5 * t + 2)) (xs (5 * t + 3)) (xs (5 * t + 4)))) Gm (S_m_does M (xs (5 * t + 1)) (xs (5 * t + 2)) (xs (5 * t + 3)) (xs (5 * t + 4))) aO (lw_f (F_does c (xs (5 * t + 1)) (xs (5 * t + 2)) (xs (5 * t + 3)) (xs (5 * t + 4))) f)) H := lw_toC hP
        refine lv_istore (lv' := [(6, .int (F_m_does M (xs (5 * t + 1)) (xs (5 * t + 2)) (xs (5 * t + 3)) (xs (5 * t + 4)))), (5, .int (lw_k (F_does c (xs (5 * t + 1)) (xs (5 * t + 2)) (xs (5 * t + 3)) (xs (5 * t + 4))))), (0, .ref b), (1, .ref (aD G)), (2, .ref (bM Gm)), (3, .ref aO), (4, .int (nI (5 * t)))]) hx hb dL_law_274 hl (by decide) rfl (fun ls hl => ?_)
        refine lv_aload_n hx hb dL_law_276 rfl (lv_at hl 4 rfl) ?_
        refine kp_callVR (rm := rm_m_thrown) (As := []) (rest := []) (r := some (.int (F_m_thrown (S_m_does M (xs (5 * t + 1)) (xs (5 * t + 2)) (xs (5 * t + 3)) (xs (5 * t + 4)))))) (st1 := [.int (F_m_thrown (S_m_does M (xs (5 * t + 1)) (xs (5 * t + 2)) (xs (5 * t + 3)) (xs (5 * t + 4))))]) B (C_m_thrown l D ty s.heap.size Gm (cw_W G (lw_c (F_does c (xs (5 * t + 1)) (xs (5 * t + 2)) (xs (5 * t + 3)) (xs (5 * t + 4))) c (S_does c (xs (5 * t + 1)) (xs (5 * t + 2)) (xs (5 * t + 3)) (xs (5 * t + 4)))) [lw_o1 Gm aO (lw_f (F_does c (xs (5 * t + 1)) (xs (5 * t + 2)) (xs (5 * t + 3)) (xs (5 * t + 4))) f)]) (hG.m (lw_c (F_does c (xs (5 * t + 1)) (xs (5 * t + 2)) (xs (5 * t + 3)) (xs (5 * t + 4))) c (S_does c (xs (5 * t + 1)) (xs (5 * t + 2)) (xs (5 * t + 3)) (xs (5 * t + 4)))) (lw_f (F_does c (xs (5 * t + 1)) (xs (5 * t + 2)) (xs (5 * t + 3)) (xs (5 * t + 4))) f)) (S_m_does M (xs (5 * t + 1)) (xs (5 * t + 2)) (xs (5 * t + 3)) (xs (5 * t + 4)))) kt_m_thrown9 kw_489 kw_490 kw_491 (km_rc B (lw_toM hP)) (by decide) ⟨rfl, rfl⟩ (hcc (by omega) (by omega)) rfl (Nat.le_of_ble_eq_true rfl) hl.1 (lw_toM hP) hS dL_law_277 rfl ?_
        refine lv_iload hx hb dL_law_280 (lv_at hl 1 rfl) ?_
        refine lv_icmp_eq (tgt := 287) hx hb dL_law_282 (by decide) (fun q9 => ?_) (fun q9 => absurd ?_ q9)
        · refine lv_iload hx hb dL_law_287 (lv_at hl 1 rfl) ?_
          refine lv_if_ne (tgt := 304) hx hb dL_law_289 (by decide) (fun q8 => ?_) (fun q8 => ?_)
          · refine lv_goto (tgt := 790) hx hb dL_law_304 (by decide) ?_
            exact hN (lw_c (F_does c (xs (5 * t + 1)) (xs (5 * t + 2)) (xs (5 * t + 3)) (xs (5 * t + 4))) c (S_does c (xs (5 * t + 1)) (xs (5 * t + 2)) (xs (5 * t + 3)) (xs (5 * t + 4)))) (S_m_does M (xs (5 * t + 1)) (xs (5 * t + 2)) (xs (5 * t + 3)) (xs (5 * t + 4))) (lw_f (F_does c (xs (5 * t + 1)) (xs (5 * t + 2)) (xs (5 * t + 3)) (xs (5 * t + 4))) f) H locs (cells + 1) (slots + 6) hag.2 hP hS (by omega) (by omega) ls (lv_sub hl [2, 3, 4, 5, 6] rfl)
          · refine lv_aload_n hx hb dL_law_292 rfl (lv_at hl 5 rfl) ?_
            refine lv_iconst (v := 0) hx hb dL_law_293 (by decide) ?_
            refine kw_oald B hG hP dL_law_294 ?_
            refine lv_iload hx hb dL_law_295 (lv_at hl 0 rfl) ?_
            refine lv_i2l (v := (F_m_does M (xs (5 * t + 1)) (xs (5 * t + 2)) (xs (5 * t + 3)) (xs (5 * t + 4))).toInt64) hx hb dL_law_297 rfl ?_
            refine kp_leq (tgt := 304) hx hb dL_law_298 dL_law_299 (by decide) (fun q7 => ?_) (fun q7 => absurd (lw_outeq hag.1 q8) q7)
            refine lv_goto (tgt := 790) hx hb dL_law_304 (by decide) ?_
            exact hN (lw_c (F_does c (xs (5 * t + 1)) (xs (5 * t + 2)) (xs (5 * t + 3)) (xs (5 * t + 4))) c (S_does c (xs (5 * t + 1)) (xs (5 * t + 2)) (xs (5 * t + 3)) (xs (5 * t + 4)))) (S_m_does M (xs (5 * t + 1)) (xs (5 * t + 2)) (xs (5 * t + 3)) (xs (5 * t + 4))) (lw_f (F_does c (xs (5 * t + 1)) (xs (5 * t + 2)) (xs (5 * t + 3)) (xs (5 * t + 4))) f) H locs (cells + 1) (slots + 6) hag.2 hP hS (by omega) (by omega) ls (lv_sub hl [2, 3, 4, 5, 6] rfl)
        · exact lw_threq hag.1
      by_cases h4 : w9 = 4
      · refine lv_tableIn (tgt := 307) hx hb dL_law_39 (by rw [h4]; decide) (by rw [h4]; decide) (by rw [h4]; rfl) (by decide) ?_
        have hag := (hAg c M hRel).2.2.2.2.1 (xs (5 * t + 1)) (xs (5 * t + 2)) (xs (5 * t + 3))
        refine lv_aload_n hx hb dL_law_307 rfl (lv_at hl 1 rfl) ?_
        refine lv_aload_n hx hb dL_law_308 rfl (lv_at hl 0 rfl) ?_
        refine lv_iload hx hb dL_law_309 (lv_at hl 4 rfl) ?_
        refine lv_iconst (v := 1) hx hb dL_law_311 (by decide) ?_
        refine lv_iadd hx hb dL_law_312 ?_
        refine lw_arg (k := 1) hx hb hX hbl hbA hS (by omega) hL (lw_ik1 _) dL_law_313 ?_
        refine lv_aload_n hx hb dL_law_314 rfl (lv_at hl 0 rfl) ?_
        refine lv_iload hx hb dL_law_315 (lv_at hl 4 rfl) ?_
        refine lv_iconst (v := 2) hx hb dL_law_317 (by decide) ?_
        refine lv_iadd hx hb dL_law_318 ?_
        refine lw_arg (k := 2) hx hb hX hbl hbA hS (by omega) hL (lw_ik2 _) dL_law_319 ?_
        refine lv_aload_n hx hb dL_law_320 rfl (lv_at hl 0 rfl) ?_
        refine lv_iload hx hb dL_law_321 (lv_at hl 4 rfl) ?_
        refine lv_iconst (v := 3) hx hb dL_law_323 (by decide) ?_
        refine lv_iadd hx hb dL_law_324 ?_
        refine lw_arg (k := 3) hx hb hX hbl hbA hS (by omega) hL (lw_ik3 _) dL_law_325 ?_
        refine lv_aload_n hx hb dL_law_326 rfl (lv_at hl 3 rfl) ?_
        refine kw_callS (cells1 := cells + 1) (slots1 := slots + 6) (rm := rmW_part) (As := [.ref (aD G), .int (xs (5 * t + 1)), .int (xs (5 * t + 2)), .int (xs (5 * t + 3)), .ref aO]) (rest := []) (r := some (.int (lw_k (F_part c (xs (5 * t + 1)) (xs (5 * t + 2)) (xs (5 * t + 3)))))) (st1 := [.int (lw_k (F_part c (xs (5 * t + 1)) (xs (5 * t + 2)) (xs (5 * t + 3))))]) (ws' := lw_W G (lw_c (F_part c (xs (5 * t + 1)) (xs (5 * t + 2)) (xs (5 * t + 3))) c (S_part c (xs (5 * t + 1)) (xs (5 * t + 2)) (xs (5 * t + 3)))) Gm M aO (lw_f (F_part c (xs (5 * t + 1)) (xs (5 * t + 2)) (xs (5 * t + 3))) f)) B (CW_part l D ty s.heap.size G Gm M aO f hG c (xs (5 * t + 1)) (xs (5 * t + 2)) (xs (5 * t + 3)) htr) kw_492 kw_493 kwy_part kw_494 kw_495 (fun U hU hA => hH0 U hA (fun z hz => by rw [hU]; exact hS.2.1 z hz (Nat.not_le.mpr hz))) (by decide) rfl rfl (hcc (by omega) (by omega)) rfl (Nat.le_of_ble_eq_true rfl) hl.1 hP hS dL_law_327 rfl (fun H locs hP hS => ?_)
        refine lv_istore (lv' := [(5, .int (lw_k (F_part c (xs (5 * t + 1)) (xs (5 * t + 2)) (xs (5 * t + 3))))), (0, .ref b), (1, .ref (aD G)), (2, .ref (bM Gm)), (3, .ref aO), (4, .int (nI (5 * t)))]) hx hb dL_law_330 hl (by decide) rfl (fun ls hl => ?_)
        refine lv_aload_n hx hb dL_law_332 rfl (lv_at hl 3 rfl) ?_
        refine lv_aload_n hx hb dL_law_333 rfl (lv_at hl 1 rfl) ?_
        refine lv_iload hx hb dL_law_334 (lv_at hl 5 rfl) ?_
        refine lv_iconst (v := 1) hx hb dL_law_336 (by decide) ?_
        refine lv_iadd hx hb dL_law_337 ?_
        refine lw_arg (k := 1) hx hb hX hbl hbA hS (by omega) hL (lw_ik1 _) dL_law_338 ?_
        refine lv_aload_n hx hb dL_law_339 rfl (lv_at hl 1 rfl) ?_
        refine lv_iload hx hb dL_law_340 (lv_at hl 5 rfl) ?_
        refine lv_iconst (v := 2) hx hb dL_law_342 (by decide) ?_
        refine lv_iadd hx hb dL_law_343 ?_
        refine lw_arg (k := 2) hx hb hX hbl hbA hS (by omega) hL (lw_ik2 _) dL_law_344 ?_
        refine lv_aload_n hx hb dL_law_345 rfl (lv_at hl 1 rfl) ?_
        refine lv_iload hx hb dL_law_346 (lv_at hl 5 rfl) ?_
        refine lv_iconst (v := 3) hx hb dL_law_348 (by decide) ?_
        refine lv_iadd hx hb dL_law_349 ?_
        refine lw_arg (k := 3) hx hb hX hbl hbA hS (by omega) hL (lw_ik3 _) dL_law_350 ?_
        refine kp_callV (cells1 := cells + 1) (slots1 := slots + 6) (rm := rm_m_part) (As := [.int (xs (5 * t + 1)), .int (xs (5 * t + 2)), .int (xs (5 * t + 3))]) (rest := []) (r := some (.int (F_m_part M (xs (5 * t + 1)) (xs (5 * t + 2)) (xs (5 * t + 3))))) (st1 := [.int (F_m_part M (xs (5 * t + 1)) (xs (5 * t + 2)) (xs (5 * t + 3)))]) (ws' := (mw_W Gm (S_m_part M (xs (5 * t + 1)) (xs (5 * t + 2)) (xs (5 * t + 3))) (cw_W G (lw_c (F_part c (xs (5 * t + 1)) (xs (5 * t + 2)) (xs (5 * t + 3))) c (S_part c (xs (5 * t + 1)) (xs (5 * t + 2)) (xs (5 * t + 3)))) [lw_o1 Gm aO (lw_f (F_part c (xs (5 * t + 1)) (xs (5 * t + 2)) (xs (5 * t + 3))) f)]))) B (C_m_part l D ty s.heap.size Gm (cw_W G (lw_c (F_part c (xs (5 * t + 1)) (xs (5 * t + 2)) (xs (5 * t + 3))) c (S_part c (xs (5 * t + 1)) (xs (5 * t + 2)) (xs (5 * t + 3)))) [lw_o1 Gm aO (lw_f (F_part c (xs (5 * t + 1)) (xs (5 * t + 2)) (xs (5 * t + 3))) f)]) (hG.m (lw_c (F_part c (xs (5 * t + 1)) (xs (5 * t + 2)) (xs (5 * t + 3))) c (S_part c (xs (5 * t + 1)) (xs (5 * t + 2)) (xs (5 * t + 3)))) (lw_f (F_part c (xs (5 * t + 1)) (xs (5 * t + 2)) (xs (5 * t + 3))) f)) M (xs (5 * t + 1)) (xs (5 * t + 2)) (xs (5 * t + 3))) kt_m_part9 kw_498 kw_499 kw_500 (km_rc B (lw_toM hP)) (by decide) rfl rfl (hcc (by omega) (by omega)) rfl (Nat.le_of_ble_eq_true rfl) hl.1 (lw_toM hP) hS dL_law_351 rfl (fun H locs hP hS => ?_)
        have hP : va_P D vwCl (lw_W G (lw_c (F_part c (xs (5 * t + 1)) (xs (5 * t + 2)) (xs (5 * t + 3))) c (S_part c (xs (5 * t + 1)) (xs (5 * t + 2)) (xs (5 * t + 3)))) Gm (S_m_part M (xs (5 * t + 1)) (xs (5 * t + 2)) (xs (5 * t + 3))) aO (lw_f (F_part c (xs (5 * t + 1)) (xs (5 * t + 2)) (xs (5 * t + 3))) f)) H := lw_toC hP
        refine lv_istore (lv' := [(6, .int (F_m_part M (xs (5 * t + 1)) (xs (5 * t + 2)) (xs (5 * t + 3)))), (5, .int (lw_k (F_part c (xs (5 * t + 1)) (xs (5 * t + 2)) (xs (5 * t + 3))))), (0, .ref b), (1, .ref (aD G)), (2, .ref (bM Gm)), (3, .ref aO), (4, .int (nI (5 * t)))]) hx hb dL_law_354 hl (by decide) rfl (fun ls hl => ?_)
        refine lv_aload_n hx hb dL_law_356 rfl (lv_at hl 4 rfl) ?_
        refine kp_callVR (rm := rm_m_thrown) (As := []) (rest := []) (r := some (.int (F_m_thrown (S_m_part M (xs (5 * t + 1)) (xs (5 * t + 2)) (xs (5 * t + 3)))))) (st1 := [.int (F_m_thrown (S_m_part M (xs (5 * t + 1)) (xs (5 * t + 2)) (xs (5 * t + 3))))]) B (C_m_thrown l D ty s.heap.size Gm (cw_W G (lw_c (F_part c (xs (5 * t + 1)) (xs (5 * t + 2)) (xs (5 * t + 3))) c (S_part c (xs (5 * t + 1)) (xs (5 * t + 2)) (xs (5 * t + 3)))) [lw_o1 Gm aO (lw_f (F_part c (xs (5 * t + 1)) (xs (5 * t + 2)) (xs (5 * t + 3))) f)]) (hG.m (lw_c (F_part c (xs (5 * t + 1)) (xs (5 * t + 2)) (xs (5 * t + 3))) c (S_part c (xs (5 * t + 1)) (xs (5 * t + 2)) (xs (5 * t + 3)))) (lw_f (F_part c (xs (5 * t + 1)) (xs (5 * t + 2)) (xs (5 * t + 3))) f)) (S_m_part M (xs (5 * t + 1)) (xs (5 * t + 2)) (xs (5 * t + 3)))) kt_m_thrown9 kw_489 kw_490 kw_491 (km_rc B (lw_toM hP)) (by decide) ⟨rfl, rfl⟩ (hcc (by omega) (by omega)) rfl (Nat.le_of_ble_eq_true rfl) hl.1 (lw_toM hP) hS dL_law_357 rfl ?_
        refine lv_iload hx hb dL_law_360 (lv_at hl 1 rfl) ?_
        refine lv_icmp_eq (tgt := 367) hx hb dL_law_362 (by decide) (fun q9 => ?_) (fun q9 => absurd ?_ q9)
        · refine lv_iload hx hb dL_law_367 (lv_at hl 1 rfl) ?_
          refine lv_if_ne (tgt := 384) hx hb dL_law_369 (by decide) (fun q8 => ?_) (fun q8 => ?_)
          · refine lv_goto (tgt := 790) hx hb dL_law_384 (by decide) ?_
            exact hN (lw_c (F_part c (xs (5 * t + 1)) (xs (5 * t + 2)) (xs (5 * t + 3))) c (S_part c (xs (5 * t + 1)) (xs (5 * t + 2)) (xs (5 * t + 3)))) (S_m_part M (xs (5 * t + 1)) (xs (5 * t + 2)) (xs (5 * t + 3))) (lw_f (F_part c (xs (5 * t + 1)) (xs (5 * t + 2)) (xs (5 * t + 3))) f) H locs (cells + 1) (slots + 6) hag.2 hP hS (by omega) (by omega) ls (lv_sub hl [2, 3, 4, 5, 6] rfl)
          · refine lv_aload_n hx hb dL_law_372 rfl (lv_at hl 5 rfl) ?_
            refine lv_iconst (v := 0) hx hb dL_law_373 (by decide) ?_
            refine kw_oald B hG hP dL_law_374 ?_
            refine lv_iload hx hb dL_law_375 (lv_at hl 0 rfl) ?_
            refine lv_i2l (v := (F_m_part M (xs (5 * t + 1)) (xs (5 * t + 2)) (xs (5 * t + 3))).toInt64) hx hb dL_law_377 rfl ?_
            refine kp_leq (tgt := 384) hx hb dL_law_378 dL_law_379 (by decide) (fun q7 => ?_) (fun q7 => absurd (lw_outeq hag.1 q8) q7)
            refine lv_goto (tgt := 790) hx hb dL_law_384 (by decide) ?_
            exact hN (lw_c (F_part c (xs (5 * t + 1)) (xs (5 * t + 2)) (xs (5 * t + 3))) c (S_part c (xs (5 * t + 1)) (xs (5 * t + 2)) (xs (5 * t + 3)))) (S_m_part M (xs (5 * t + 1)) (xs (5 * t + 2)) (xs (5 * t + 3))) (lw_f (F_part c (xs (5 * t + 1)) (xs (5 * t + 2)) (xs (5 * t + 3))) f) H locs (cells + 1) (slots + 6) hag.2 hP hS (by omega) (by omega) ls (lv_sub hl [2, 3, 4, 5, 6] rfl)
        · exact lw_threq hag.1
      by_cases h5 : w9 = 5
      · refine lv_tableIn (tgt := 387) hx hb dL_law_39 (by rw [h5]; decide) (by rw [h5]; decide) (by rw [h5]; rfl) (by decide) ?_
        have hag := (hAg c M hRel).2.2.2.2.2.1 (xs (5 * t + 1)) (xs (5 * t + 2)) (xs (5 * t + 3))
        refine lv_aload_n hx hb dL_law_387 rfl (lv_at hl 1 rfl) ?_
        refine lv_aload_n hx hb dL_law_388 rfl (lv_at hl 0 rfl) ?_
        refine lv_iload hx hb dL_law_389 (lv_at hl 4 rfl) ?_
        refine lv_iconst (v := 1) hx hb dL_law_391 (by decide) ?_
        refine lv_iadd hx hb dL_law_392 ?_
        refine lw_arg (k := 1) hx hb hX hbl hbA hS (by omega) hL (lw_ik1 _) dL_law_393 ?_
        refine lv_aload_n hx hb dL_law_394 rfl (lv_at hl 0 rfl) ?_
        refine lv_iload hx hb dL_law_395 (lv_at hl 4 rfl) ?_
        refine lv_iconst (v := 2) hx hb dL_law_397 (by decide) ?_
        refine lv_iadd hx hb dL_law_398 ?_
        refine lw_arg (k := 2) hx hb hX hbl hbA hS (by omega) hL (lw_ik2 _) dL_law_399 ?_
        refine lv_aload_n hx hb dL_law_400 rfl (lv_at hl 0 rfl) ?_
        refine lv_iload hx hb dL_law_401 (lv_at hl 4 rfl) ?_
        refine lv_iconst (v := 3) hx hb dL_law_403 (by decide) ?_
        refine lv_iadd hx hb dL_law_404 ?_
        refine lw_arg (k := 3) hx hb hX hbl hbA hS (by omega) hL (lw_ik3 _) dL_law_405 ?_
        refine lv_aload_n hx hb dL_law_406 rfl (lv_at hl 3 rfl) ?_
        refine kw_callS (cells1 := cells + 1) (slots1 := slots + 6) (rm := rmW_sum) (As := [.ref (aD G), .int (xs (5 * t + 1)), .int (xs (5 * t + 2)), .int (xs (5 * t + 3)), .ref aO]) (rest := []) (r := some (.int (lw_k (F_sum c (xs (5 * t + 1)) (xs (5 * t + 2)) (xs (5 * t + 3)))))) (st1 := [.int (lw_k (F_sum c (xs (5 * t + 1)) (xs (5 * t + 2)) (xs (5 * t + 3))))]) (ws' := lw_W G (lw_c (F_sum c (xs (5 * t + 1)) (xs (5 * t + 2)) (xs (5 * t + 3))) c (S_sum c (xs (5 * t + 1)) (xs (5 * t + 2)) (xs (5 * t + 3)))) Gm M aO (lw_f (F_sum c (xs (5 * t + 1)) (xs (5 * t + 2)) (xs (5 * t + 3))) f)) B (CW_sum l D ty s.heap.size G Gm M aO f hG c (xs (5 * t + 1)) (xs (5 * t + 2)) (xs (5 * t + 3)) htr) kw_501 kw_502 kwy_sum kw_503 kw_504 (fun U hU hA => hH0 U hA (fun z hz => by rw [hU]; exact hS.2.1 z hz (Nat.not_le.mpr hz))) (by decide) rfl rfl (hcc (by omega) (by omega)) rfl (Nat.le_of_ble_eq_true rfl) hl.1 hP hS dL_law_407 rfl (fun H locs hP hS => ?_)
        refine lv_istore (lv' := [(5, .int (lw_k (F_sum c (xs (5 * t + 1)) (xs (5 * t + 2)) (xs (5 * t + 3))))), (0, .ref b), (1, .ref (aD G)), (2, .ref (bM Gm)), (3, .ref aO), (4, .int (nI (5 * t)))]) hx hb dL_law_410 hl (by decide) rfl (fun ls hl => ?_)
        refine lv_aload_n hx hb dL_law_412 rfl (lv_at hl 3 rfl) ?_
        refine lv_aload_n hx hb dL_law_413 rfl (lv_at hl 1 rfl) ?_
        refine lv_iload hx hb dL_law_414 (lv_at hl 5 rfl) ?_
        refine lv_iconst (v := 1) hx hb dL_law_416 (by decide) ?_
        refine lv_iadd hx hb dL_law_417 ?_
        refine lw_arg (k := 1) hx hb hX hbl hbA hS (by omega) hL (lw_ik1 _) dL_law_418 ?_
        refine lv_aload_n hx hb dL_law_419 rfl (lv_at hl 1 rfl) ?_
        refine lv_iload hx hb dL_law_420 (lv_at hl 5 rfl) ?_
        refine lv_iconst (v := 2) hx hb dL_law_422 (by decide) ?_
        refine lv_iadd hx hb dL_law_423 ?_
        refine lw_arg (k := 2) hx hb hX hbl hbA hS (by omega) hL (lw_ik2 _) dL_law_424 ?_
        refine lv_aload_n hx hb dL_law_425 rfl (lv_at hl 1 rfl) ?_
        refine lv_iload hx hb dL_law_426 (lv_at hl 5 rfl) ?_
        refine lv_iconst (v := 3) hx hb dL_law_428 (by decide) ?_
        refine lv_iadd hx hb dL_law_429 ?_
        refine lw_arg (k := 3) hx hb hX hbl hbA hS (by omega) hL (lw_ik3 _) dL_law_430 ?_
        refine kp_callV (cells1 := cells + 1) (slots1 := slots + 6) (rm := rm_m_sum) (As := [.int (xs (5 * t + 1)), .int (xs (5 * t + 2)), .int (xs (5 * t + 3))]) (rest := []) (r := some (.int (F_m_sum M (xs (5 * t + 1)) (xs (5 * t + 2)) (xs (5 * t + 3))))) (st1 := [.int (F_m_sum M (xs (5 * t + 1)) (xs (5 * t + 2)) (xs (5 * t + 3)))]) (ws' := (mw_W Gm (S_m_sum M (xs (5 * t + 1)) (xs (5 * t + 2)) (xs (5 * t + 3))) (cw_W G (lw_c (F_sum c (xs (5 * t + 1)) (xs (5 * t + 2)) (xs (5 * t + 3))) c (S_sum c (xs (5 * t + 1)) (xs (5 * t + 2)) (xs (5 * t + 3)))) [lw_o1 Gm aO (lw_f (F_sum c (xs (5 * t + 1)) (xs (5 * t + 2)) (xs (5 * t + 3))) f)]))) B (C_m_sum l D ty s.heap.size Gm (cw_W G (lw_c (F_sum c (xs (5 * t + 1)) (xs (5 * t + 2)) (xs (5 * t + 3))) c (S_sum c (xs (5 * t + 1)) (xs (5 * t + 2)) (xs (5 * t + 3)))) [lw_o1 Gm aO (lw_f (F_sum c (xs (5 * t + 1)) (xs (5 * t + 2)) (xs (5 * t + 3))) f)]) (hG.m (lw_c (F_sum c (xs (5 * t + 1)) (xs (5 * t + 2)) (xs (5 * t + 3))) c (S_sum c (xs (5 * t + 1)) (xs (5 * t + 2)) (xs (5 * t + 3)))) (lw_f (F_sum c (xs (5 * t + 1)) (xs (5 * t + 2)) (xs (5 * t + 3))) f)) M (xs (5 * t + 1)) (xs (5 * t + 2)) (xs (5 * t + 3))) kt_m_sum9 kw_507 kw_508 kw_509 (km_rc B (lw_toM hP)) (by decide) rfl rfl (hcc (by omega) (by omega)) rfl (Nat.le_of_ble_eq_true rfl) hl.1 (lw_toM hP) hS dL_law_431 rfl (fun H locs hP hS => ?_)
        have hP : va_P D vwCl (lw_W G (lw_c (F_sum c (xs (5 * t + 1)) (xs (5 * t + 2)) (xs (5 * t + 3))) c (S_sum c (xs (5 * t + 1)) (xs (5 * t + 2)) (xs (5 * t + 3)))) Gm (S_m_sum M (xs (5 * t + 1)) (xs (5 * t + 2)) (xs (5 * t + 3))) aO (lw_f (F_sum c (xs (5 * t + 1)) (xs (5 * t + 2)) (xs (5 * t + 3))) f)) H := lw_toC hP
        refine lv_istore (lv' := [(6, .int (F_m_sum M (xs (5 * t + 1)) (xs (5 * t + 2)) (xs (5 * t + 3)))), (5, .int (lw_k (F_sum c (xs (5 * t + 1)) (xs (5 * t + 2)) (xs (5 * t + 3))))), (0, .ref b), (1, .ref (aD G)), (2, .ref (bM Gm)), (3, .ref aO), (4, .int (nI (5 * t)))]) hx hb dL_law_434 hl (by decide) rfl (fun ls hl => ?_)
        refine lv_aload_n hx hb dL_law_436 rfl (lv_at hl 4 rfl) ?_
        refine kp_callVR (rm := rm_m_thrown) (As := []) (rest := []) (r := some (.int (F_m_thrown (S_m_sum M (xs (5 * t + 1)) (xs (5 * t + 2)) (xs (5 * t + 3)))))) (st1 := [.int (F_m_thrown (S_m_sum M (xs (5 * t + 1)) (xs (5 * t + 2)) (xs (5 * t + 3))))]) B (C_m_thrown l D ty s.heap.size Gm (cw_W G (lw_c (F_sum c (xs (5 * t + 1)) (xs (5 * t + 2)) (xs (5 * t + 3))) c (S_sum c (xs (5 * t + 1)) (xs (5 * t + 2)) (xs (5 * t + 3)))) [lw_o1 Gm aO (lw_f (F_sum c (xs (5 * t + 1)) (xs (5 * t + 2)) (xs (5 * t + 3))) f)]) (hG.m (lw_c (F_sum c (xs (5 * t + 1)) (xs (5 * t + 2)) (xs (5 * t + 3))) c (S_sum c (xs (5 * t + 1)) (xs (5 * t + 2)) (xs (5 * t + 3)))) (lw_f (F_sum c (xs (5 * t + 1)) (xs (5 * t + 2)) (xs (5 * t + 3))) f)) (S_m_sum M (xs (5 * t + 1)) (xs (5 * t + 2)) (xs (5 * t + 3)))) kt_m_thrown9 kw_489 kw_490 kw_491 (km_rc B (lw_toM hP)) (by decide) ⟨rfl, rfl⟩ (hcc (by omega) (by omega)) rfl (Nat.le_of_ble_eq_true rfl) hl.1 (lw_toM hP) hS dL_law_437 rfl ?_
        refine lv_iload hx hb dL_law_440 (lv_at hl 1 rfl) ?_
        refine lv_icmp_eq (tgt := 447) hx hb dL_law_442 (by decide) (fun q9 => ?_) (fun q9 => absurd ?_ q9)
        · refine lv_iload hx hb dL_law_447 (lv_at hl 1 rfl) ?_
          refine lv_if_ne (tgt := 464) hx hb dL_law_449 (by decide) (fun q8 => ?_) (fun q8 => ?_)
          · refine lv_goto (tgt := 790) hx hb dL_law_464 (by decide) ?_
            exact hN (lw_c (F_sum c (xs (5 * t + 1)) (xs (5 * t + 2)) (xs (5 * t + 3))) c (S_sum c (xs (5 * t + 1)) (xs (5 * t + 2)) (xs (5 * t + 3)))) (S_m_sum M (xs (5 * t + 1)) (xs (5 * t + 2)) (xs (5 * t + 3))) (lw_f (F_sum c (xs (5 * t + 1)) (xs (5 * t + 2)) (xs (5 * t + 3))) f) H locs (cells + 1) (slots + 6) hag.2 hP hS (by omega) (by omega) ls (lv_sub hl [2, 3, 4, 5, 6] rfl)
          · refine lv_aload_n hx hb dL_law_452 rfl (lv_at hl 5 rfl) ?_
            refine lv_iconst (v := 0) hx hb dL_law_453 (by decide) ?_
            refine kw_oald B hG hP dL_law_454 ?_
            refine lv_iload hx hb dL_law_455 (lv_at hl 0 rfl) ?_
            refine lv_i2l (v := (F_m_sum M (xs (5 * t + 1)) (xs (5 * t + 2)) (xs (5 * t + 3))).toInt64) hx hb dL_law_457 rfl ?_
            refine kp_leq (tgt := 464) hx hb dL_law_458 dL_law_459 (by decide) (fun q7 => ?_) (fun q7 => absurd (lw_outeq hag.1 q8) q7)
            refine lv_goto (tgt := 790) hx hb dL_law_464 (by decide) ?_
            exact hN (lw_c (F_sum c (xs (5 * t + 1)) (xs (5 * t + 2)) (xs (5 * t + 3))) c (S_sum c (xs (5 * t + 1)) (xs (5 * t + 2)) (xs (5 * t + 3)))) (S_m_sum M (xs (5 * t + 1)) (xs (5 * t + 2)) (xs (5 * t + 3))) (lw_f (F_sum c (xs (5 * t + 1)) (xs (5 * t + 2)) (xs (5 * t + 3))) f) H locs (cells + 1) (slots + 6) hag.2 hP hS (by omega) (by omega) ls (lv_sub hl [2, 3, 4, 5, 6] rfl)
        · exact lw_threq hag.1
      by_cases h6 : w9 = 6
      · refine lv_tableIn (tgt := 467) hx hb dL_law_39 (by rw [h6]; decide) (by rw [h6]; decide) (by rw [h6]; rfl) (by decide) ?_
        have hag := (hAg c M hRel).2.2.2.2.2.2.1 (xs (5 * t + 1))
        refine lv_aload_n hx hb dL_law_467 rfl (lv_at hl 1 rfl) ?_
        refine lv_aload_n hx hb dL_law_468 rfl (lv_at hl 0 rfl) ?_
        refine lv_iload hx hb dL_law_469 (lv_at hl 4 rfl) ?_
        refine lv_iconst (v := 1) hx hb dL_law_471 (by decide) ?_
        refine lv_iadd hx hb dL_law_472 ?_
        refine lw_arg (k := 1) hx hb hX hbl hbA hS (by omega) hL (lw_ik1 _) dL_law_473 ?_
        refine kp_callVR (rm := rm_kind) (As := [.int (xs (5 * t + 1))]) (rest := []) (r := some (.int (F_kind c (xs (5 * t + 1))))) (st1 := [.int (F_kind c (xs (5 * t + 1)))]) B (C_kind l D ty s.heap.size G (mw_W Gm M [lw_o1 Gm aO f]) (hG.c M f) c (xs (5 * t + 1))) kt_kind9 kw_512 kw_513 kw_514 (kc_rcD B hP) (by decide) ⟨rfl, rfl⟩ (hcc (by omega) (by omega)) rfl (Nat.le_of_ble_eq_true rfl) hl.1 hP hS dL_law_474 rfl ?_
        refine lv_aload_n hx hb dL_law_477 rfl (lv_at hl 2 rfl) ?_
        refine lv_aload_n hx hb dL_law_478 rfl (lv_at hl 0 rfl) ?_
        refine lv_iload hx hb dL_law_479 (lv_at hl 4 rfl) ?_
        refine lv_iconst (v := 1) hx hb dL_law_481 (by decide) ?_
        refine lv_iadd hx hb dL_law_482 ?_
        refine lw_arg (k := 1) hx hb hX hbl hbA hS (by omega) hL (lw_ik1 _) dL_law_483 ?_
        refine kp_callV (cells1 := cells) (slots1 := slots) (rm := rm_m_kind) (As := [.int (xs (5 * t + 1))]) (rest := [.int (F_kind c (xs (5 * t + 1)))]) (r := some (.int (F_m_kind M (xs (5 * t + 1))))) (st1 := [.int (F_m_kind M (xs (5 * t + 1))), .int (F_kind c (xs (5 * t + 1)))]) (ws' := (mw_W Gm (S_m_kind M (xs (5 * t + 1))) (cw_W G c [lw_o1 Gm aO f]))) B (C_m_kind l D ty s.heap.size Gm (cw_W G c [lw_o1 Gm aO f]) (hG.m c f) M (xs (5 * t + 1))) kt_m_kind9 kw_515 kw_321 kw_322 (km_rc B (lw_toM hP)) (by decide) rfl rfl (hcc (by omega) (by omega)) rfl (Nat.le_of_ble_eq_true rfl) hl.1 (lw_toM hP) hS dL_law_484 rfl (fun H locs hP hS => ?_)
        have hP : va_P D vwCl (lw_W G c Gm (S_m_kind M (xs (5 * t + 1))) aO f) H := lw_toC hP
        refine lv_icmp_eq (tgt := 790) hx hb dL_law_487 (by decide) (fun q9 => ?_) (fun q9 => absurd ?_ q9)
        · exact hN c (S_m_kind M (xs (5 * t + 1))) f H locs cells slots hag.2 hP hS (by omega) (by omega) ls (lv_sub hl [0, 1, 2, 3, 4] rfl)
        · exact hag.1
      by_cases h7 : w9 = 7
      · refine lv_tableIn (tgt := 492) hx hb dL_law_39 (by rw [h7]; decide) (by rw [h7]; decide) (by rw [h7]; rfl) (by decide) ?_
        have hag := (hAg c M hRel).2.2.2.2.2.2.2.1 (xs (5 * t + 1))
        refine lv_aload_n hx hb dL_law_492 rfl (lv_at hl 1 rfl) ?_
        refine lv_aload_n hx hb dL_law_493 rfl (lv_at hl 0 rfl) ?_
        refine lv_iload hx hb dL_law_494 (lv_at hl 4 rfl) ?_
        refine lv_iconst (v := 1) hx hb dL_law_496 (by decide) ?_
        refine lv_iadd hx hb dL_law_497 ?_
        refine lw_arg (k := 1) hx hb hX hbl hbA hS (by omega) hL (lw_ik1 _) dL_law_498 ?_
        refine lv_aload_n hx hb dL_law_499 rfl (lv_at hl 3 rfl) ?_
        refine kw_callS (cells1 := cells + 1) (slots1 := slots + 6) (rm := rmW_low) (As := [.ref (aD G), .int (xs (5 * t + 1)), .ref aO]) (rest := []) (r := some (.int (lw_k (F_low c (xs (5 * t + 1)))))) (st1 := [.int (lw_k (F_low c (xs (5 * t + 1))))]) (ws' := lw_W G (lw_c (F_low c (xs (5 * t + 1))) c c) Gm M aO (lw_f (F_low c (xs (5 * t + 1))) f)) B (CW_low l D ty s.heap.size G Gm M aO f hG c (xs (5 * t + 1)) htr) kw_516 kw_517 kwy_low kw_518 kw_519 (fun U hU hA => hH0 U hA (fun z hz => by rw [hU]; exact hS.2.1 z hz (Nat.not_le.mpr hz))) (by decide) rfl rfl (hcc (by omega) (by omega)) rfl (Nat.le_of_ble_eq_true rfl) hl.1 hP hS dL_law_500 rfl (fun H locs hP hS => ?_)
        refine lv_istore (lv' := [(5, .int (lw_k (F_low c (xs (5 * t + 1))))), (0, .ref b), (1, .ref (aD G)), (2, .ref (bM Gm)), (3, .ref aO), (4, .int (nI (5 * t)))]) hx hb dL_law_503 hl (by decide) rfl (fun ls hl => ?_)
        refine lv_aload_n hx hb dL_law_505 rfl (lv_at hl 3 rfl) ?_
        refine lv_aload_n hx hb dL_law_506 rfl (lv_at hl 1 rfl) ?_
        refine lv_iload hx hb dL_law_507 (lv_at hl 5 rfl) ?_
        refine lv_iconst (v := 1) hx hb dL_law_509 (by decide) ?_
        refine lv_iadd hx hb dL_law_510 ?_
        refine lw_arg (k := 1) hx hb hX hbl hbA hS (by omega) hL (lw_ik1 _) dL_law_511 ?_
        refine kp_callV (cells1 := cells + 1) (slots1 := slots + 6) (rm := rm_m_low) (As := [.int (xs (5 * t + 1))]) (rest := []) (r := some (.int (F_m_low M (xs (5 * t + 1))))) (st1 := [.int (F_m_low M (xs (5 * t + 1)))]) (ws' := (mw_W Gm (S_m_low M (xs (5 * t + 1))) (cw_W G (lw_c (F_low c (xs (5 * t + 1))) c c) [lw_o1 Gm aO (lw_f (F_low c (xs (5 * t + 1))) f)]))) B (C_m_low l D ty s.heap.size Gm (cw_W G (lw_c (F_low c (xs (5 * t + 1))) c c) [lw_o1 Gm aO (lw_f (F_low c (xs (5 * t + 1))) f)]) (hG.m (lw_c (F_low c (xs (5 * t + 1))) c c) (lw_f (F_low c (xs (5 * t + 1))) f)) M (xs (5 * t + 1))) kt_m_low9 kw_522 kw_523 kw_524 (km_rc B (lw_toM hP)) (by decide) rfl rfl (hcc (by omega) (by omega)) rfl (Nat.le_of_ble_eq_true rfl) hl.1 (lw_toM hP) hS dL_law_512 rfl (fun H locs hP hS => ?_)
        have hP : va_P D vwCl (lw_W G (lw_c (F_low c (xs (5 * t + 1))) c c) Gm (S_m_low M (xs (5 * t + 1))) aO (lw_f (F_low c (xs (5 * t + 1))) f)) H := lw_toC hP
        refine lv_istore (lv' := [(6, .int (F_m_low M (xs (5 * t + 1)))), (5, .int (lw_k (F_low c (xs (5 * t + 1))))), (0, .ref b), (1, .ref (aD G)), (2, .ref (bM Gm)), (3, .ref aO), (4, .int (nI (5 * t)))]) hx hb dL_law_515 hl (by decide) rfl (fun ls hl => ?_)
        refine lv_aload_n hx hb dL_law_517 rfl (lv_at hl 4 rfl) ?_
        refine kp_callVR (rm := rm_m_thrown) (As := []) (rest := []) (r := some (.int (F_m_thrown (S_m_low M (xs (5 * t + 1)))))) (st1 := [.int (F_m_thrown (S_m_low M (xs (5 * t + 1))))]) B (C_m_thrown l D ty s.heap.size Gm (cw_W G (lw_c (F_low c (xs (5 * t + 1))) c c) [lw_o1 Gm aO (lw_f (F_low c (xs (5 * t + 1))) f)]) (hG.m (lw_c (F_low c (xs (5 * t + 1))) c c) (lw_f (F_low c (xs (5 * t + 1))) f)) (S_m_low M (xs (5 * t + 1)))) kt_m_thrown9 kw_489 kw_490 kw_491 (km_rc B (lw_toM hP)) (by decide) ⟨rfl, rfl⟩ (hcc (by omega) (by omega)) rfl (Nat.le_of_ble_eq_true rfl) hl.1 (lw_toM hP) hS dL_law_518 rfl ?_
        refine lv_iload hx hb dL_law_521 (lv_at hl 1 rfl) ?_
        refine lv_icmp_eq (tgt := 528) hx hb dL_law_523 (by decide) (fun q9 => ?_) (fun q9 => absurd ?_ q9)
        · refine lv_iload hx hb dL_law_528 (lv_at hl 1 rfl) ?_
          refine lv_if_ne (tgt := 545) hx hb dL_law_530 (by decide) (fun q8 => ?_) (fun q8 => ?_)
          · refine lv_goto (tgt := 790) hx hb dL_law_545 (by decide) ?_
            exact hN (lw_c (F_low c (xs (5 * t + 1))) c c) (S_m_low M (xs (5 * t + 1))) (lw_f (F_low c (xs (5 * t + 1))) f) H locs (cells + 1) (slots + 6) hag.2 hP hS (by omega) (by omega) ls (lv_sub hl [2, 3, 4, 5, 6] rfl)
          · refine lv_aload_n hx hb dL_law_533 rfl (lv_at hl 5 rfl) ?_
            refine lv_iconst (v := 0) hx hb dL_law_534 (by decide) ?_
            refine kw_oald B hG hP dL_law_535 ?_
            refine lv_iload hx hb dL_law_536 (lv_at hl 0 rfl) ?_
            refine lv_i2l (v := (F_m_low M (xs (5 * t + 1))).toInt64) hx hb dL_law_538 rfl ?_
            refine kp_leq (tgt := 545) hx hb dL_law_539 dL_law_540 (by decide) (fun q7 => ?_) (fun q7 => absurd (lw_outeq hag.1 q8) q7)
            refine lv_goto (tgt := 790) hx hb dL_law_545 (by decide) ?_
            exact hN (lw_c (F_low c (xs (5 * t + 1))) c c) (S_m_low M (xs (5 * t + 1))) (lw_f (F_low c (xs (5 * t + 1))) f) H locs (cells + 1) (slots + 6) hag.2 hP hS (by omega) (by omega) ls (lv_sub hl [2, 3, 4, 5, 6] rfl)
        · exact lw_threq hag.1
      by_cases h8 : w9 = 8
      · refine lv_tableIn (tgt := 548) hx hb dL_law_39 (by rw [h8]; decide) (by rw [h8]; decide) (by rw [h8]; rfl) (by decide) ?_
        have hag := (hAg c M hRel).2.2.2.2.2.2.2.2.1 (xs (5 * t + 1))
        refine lv_aload_n hx hb dL_law_548 rfl (lv_at hl 1 rfl) ?_
        refine lv_aload_n hx hb dL_law_549 rfl (lv_at hl 0 rfl) ?_
        refine lv_iload hx hb dL_law_550 (lv_at hl 4 rfl) ?_
        refine lv_iconst (v := 1) hx hb dL_law_552 (by decide) ?_
        refine lv_iadd hx hb dL_law_553 ?_
        refine lw_arg (k := 1) hx hb hX hbl hbA hS (by omega) hL (lw_ik1 _) dL_law_554 ?_
        refine lv_aload_n hx hb dL_law_555 rfl (lv_at hl 3 rfl) ?_
        refine kw_callS (cells1 := cells + 1) (slots1 := slots + 6) (rm := rmW_high) (As := [.ref (aD G), .int (xs (5 * t + 1)), .ref aO]) (rest := []) (r := some (.int (lw_k (F_high c (xs (5 * t + 1)))))) (st1 := [.int (lw_k (F_high c (xs (5 * t + 1))))]) (ws' := lw_W G (lw_c (F_high c (xs (5 * t + 1))) c c) Gm M aO (lw_f (F_high c (xs (5 * t + 1))) f)) B (CW_high l D ty s.heap.size G Gm M aO f hG c (xs (5 * t + 1)) htr) kw_525 kw_526 kwy_high kw_527 kw_528 (fun U hU hA => hH0 U hA (fun z hz => by rw [hU]; exact hS.2.1 z hz (Nat.not_le.mpr hz))) (by decide) rfl rfl (hcc (by omega) (by omega)) rfl (Nat.le_of_ble_eq_true rfl) hl.1 hP hS dL_law_556 rfl (fun H locs hP hS => ?_)
        refine lv_istore (lv' := [(5, .int (lw_k (F_high c (xs (5 * t + 1))))), (0, .ref b), (1, .ref (aD G)), (2, .ref (bM Gm)), (3, .ref aO), (4, .int (nI (5 * t)))]) hx hb dL_law_559 hl (by decide) rfl (fun ls hl => ?_)
        refine lv_aload_n hx hb dL_law_561 rfl (lv_at hl 3 rfl) ?_
        refine lv_aload_n hx hb dL_law_562 rfl (lv_at hl 1 rfl) ?_
        refine lv_iload hx hb dL_law_563 (lv_at hl 5 rfl) ?_
        refine lv_iconst (v := 1) hx hb dL_law_565 (by decide) ?_
        refine lv_iadd hx hb dL_law_566 ?_
        refine lw_arg (k := 1) hx hb hX hbl hbA hS (by omega) hL (lw_ik1 _) dL_law_567 ?_
        refine kp_callV (cells1 := cells + 1) (slots1 := slots + 6) (rm := rm_m_high) (As := [.int (xs (5 * t + 1))]) (rest := []) (r := some (.int (F_m_high M (xs (5 * t + 1))))) (st1 := [.int (F_m_high M (xs (5 * t + 1)))]) (ws' := (mw_W Gm (S_m_high M (xs (5 * t + 1))) (cw_W G (lw_c (F_high c (xs (5 * t + 1))) c c) [lw_o1 Gm aO (lw_f (F_high c (xs (5 * t + 1))) f)]))) B (C_m_high l D ty s.heap.size Gm (cw_W G (lw_c (F_high c (xs (5 * t + 1))) c c) [lw_o1 Gm aO (lw_f (F_high c (xs (5 * t + 1))) f)]) (hG.m (lw_c (F_high c (xs (5 * t + 1))) c c) (lw_f (F_high c (xs (5 * t + 1))) f)) M (xs (5 * t + 1))) kt_m_high9 kw_531 kw_532 kw_533 (km_rc B (lw_toM hP)) (by decide) rfl rfl (hcc (by omega) (by omega)) rfl (Nat.le_of_ble_eq_true rfl) hl.1 (lw_toM hP) hS dL_law_568 rfl (fun H locs hP hS => ?_)
        have hP : va_P D vwCl (lw_W G (lw_c (F_high c (xs (5 * t + 1))) c c) Gm (S_m_high M (xs (5 * t + 1))) aO (lw_f (F_high c (xs (5 * t + 1))) f)) H := lw_toC hP
        refine lv_istore (lv' := [(6, .int (F_m_high M (xs (5 * t + 1)))), (5, .int (lw_k (F_high c (xs (5 * t + 1))))), (0, .ref b), (1, .ref (aD G)), (2, .ref (bM Gm)), (3, .ref aO), (4, .int (nI (5 * t)))]) hx hb dL_law_571 hl (by decide) rfl (fun ls hl => ?_)
        refine lv_aload_n hx hb dL_law_573 rfl (lv_at hl 4 rfl) ?_
        refine kp_callVR (rm := rm_m_thrown) (As := []) (rest := []) (r := some (.int (F_m_thrown (S_m_high M (xs (5 * t + 1)))))) (st1 := [.int (F_m_thrown (S_m_high M (xs (5 * t + 1))))]) B (C_m_thrown l D ty s.heap.size Gm (cw_W G (lw_c (F_high c (xs (5 * t + 1))) c c) [lw_o1 Gm aO (lw_f (F_high c (xs (5 * t + 1))) f)]) (hG.m (lw_c (F_high c (xs (5 * t + 1))) c c) (lw_f (F_high c (xs (5 * t + 1))) f)) (S_m_high M (xs (5 * t + 1)))) kt_m_thrown9 kw_489 kw_490 kw_491 (km_rc B (lw_toM hP)) (by decide) ⟨rfl, rfl⟩ (hcc (by omega) (by omega)) rfl (Nat.le_of_ble_eq_true rfl) hl.1 (lw_toM hP) hS dL_law_574 rfl ?_
        refine lv_iload hx hb dL_law_577 (lv_at hl 1 rfl) ?_
        refine lv_icmp_eq (tgt := 584) hx hb dL_law_579 (by decide) (fun q9 => ?_) (fun q9 => absurd ?_ q9)
        · refine lv_iload hx hb dL_law_584 (lv_at hl 1 rfl) ?_
          refine lv_if_ne (tgt := 601) hx hb dL_law_586 (by decide) (fun q8 => ?_) (fun q8 => ?_)
          · refine lv_goto (tgt := 790) hx hb dL_law_601 (by decide) ?_
            exact hN (lw_c (F_high c (xs (5 * t + 1))) c c) (S_m_high M (xs (5 * t + 1))) (lw_f (F_high c (xs (5 * t + 1))) f) H locs (cells + 1) (slots + 6) hag.2 hP hS (by omega) (by omega) ls (lv_sub hl [2, 3, 4, 5, 6] rfl)
          · refine lv_aload_n hx hb dL_law_589 rfl (lv_at hl 5 rfl) ?_
            refine lv_iconst (v := 0) hx hb dL_law_590 (by decide) ?_
            refine kw_oald B hG hP dL_law_591 ?_
            refine lv_iload hx hb dL_law_592 (lv_at hl 0 rfl) ?_
            refine lv_i2l (v := (F_m_high M (xs (5 * t + 1))).toInt64) hx hb dL_law_594 rfl ?_
            refine kp_leq (tgt := 601) hx hb dL_law_595 dL_law_596 (by decide) (fun q7 => ?_) (fun q7 => absurd (lw_outeq hag.1 q8) q7)
            refine lv_goto (tgt := 790) hx hb dL_law_601 (by decide) ?_
            exact hN (lw_c (F_high c (xs (5 * t + 1))) c c) (S_m_high M (xs (5 * t + 1))) (lw_f (F_high c (xs (5 * t + 1))) f) H locs (cells + 1) (slots + 6) hag.2 hP hS (by omega) (by omega) ls (lv_sub hl [2, 3, 4, 5, 6] rfl)
        · exact lw_threq hag.1
      by_cases h9 : w9 = 9
      · refine lv_tableIn (tgt := 604) hx hb dL_law_39 (by rw [h9]; decide) (by rw [h9]; decide) (by rw [h9]; rfl) (by decide) ?_
        have hag := (hAg c M hRel).2.2.2.2.2.2.2.2.2.1 (xs (5 * t + 1))
        refine lv_aload_n hx hb dL_law_604 rfl (lv_at hl 1 rfl) ?_
        refine lv_aload_n hx hb dL_law_605 rfl (lv_at hl 0 rfl) ?_
        refine lv_iload hx hb dL_law_606 (lv_at hl 4 rfl) ?_
        refine lv_iconst (v := 1) hx hb dL_law_608 (by decide) ?_
        refine lv_iadd hx hb dL_law_609 ?_
        refine lw_arg (k := 1) hx hb hX hbl hbA hS (by omega) hL (lw_ik1 _) dL_law_610 ?_
        refine lv_aload_n hx hb dL_law_611 rfl (lv_at hl 3 rfl) ?_
        refine kw_callS (cells1 := cells + 1) (slots1 := slots + 6) (rm := rmW_middle) (As := [.ref (aD G), .int (xs (5 * t + 1)), .ref aO]) (rest := []) (r := some (.int (lw_k (F_middle c (xs (5 * t + 1)))))) (st1 := [.int (lw_k (F_middle c (xs (5 * t + 1))))]) (ws' := lw_W G (lw_c (F_middle c (xs (5 * t + 1))) c c) Gm M aO (lw_f (F_middle c (xs (5 * t + 1))) f)) B (CW_middle l D ty s.heap.size G Gm M aO f hG c (xs (5 * t + 1)) htr) kw_534 kw_535 kwy_middle kw_536 kw_537 (fun U hU hA => hH0 U hA (fun z hz => by rw [hU]; exact hS.2.1 z hz (Nat.not_le.mpr hz))) (by decide) rfl rfl (hcc (by omega) (by omega)) rfl (Nat.le_of_ble_eq_true rfl) hl.1 hP hS dL_law_612 rfl (fun H locs hP hS => ?_)
        refine lv_istore (lv' := [(5, .int (lw_k (F_middle c (xs (5 * t + 1))))), (0, .ref b), (1, .ref (aD G)), (2, .ref (bM Gm)), (3, .ref aO), (4, .int (nI (5 * t)))]) hx hb dL_law_615 hl (by decide) rfl (fun ls hl => ?_)
        refine lv_aload_n hx hb dL_law_617 rfl (lv_at hl 3 rfl) ?_
        refine lv_aload_n hx hb dL_law_618 rfl (lv_at hl 1 rfl) ?_
        refine lv_iload hx hb dL_law_619 (lv_at hl 5 rfl) ?_
        refine lv_iconst (v := 1) hx hb dL_law_621 (by decide) ?_
        refine lv_iadd hx hb dL_law_622 ?_
        refine lw_arg (k := 1) hx hb hX hbl hbA hS (by omega) hL (lw_ik1 _) dL_law_623 ?_
        refine kp_callV (cells1 := cells + 1) (slots1 := slots + 6) (rm := rm_m_middle) (As := [.int (xs (5 * t + 1))]) (rest := []) (r := some (.int (F_m_middle M (xs (5 * t + 1))))) (st1 := [.int (F_m_middle M (xs (5 * t + 1)))]) (ws' := (mw_W Gm (S_m_middle M (xs (5 * t + 1))) (cw_W G (lw_c (F_middle c (xs (5 * t + 1))) c c) [lw_o1 Gm aO (lw_f (F_middle c (xs (5 * t + 1))) f)]))) B (C_m_middle l D ty s.heap.size Gm (cw_W G (lw_c (F_middle c (xs (5 * t + 1))) c c) [lw_o1 Gm aO (lw_f (F_middle c (xs (5 * t + 1))) f)]) (hG.m (lw_c (F_middle c (xs (5 * t + 1))) c c) (lw_f (F_middle c (xs (5 * t + 1))) f)) M (xs (5 * t + 1))) kt_m_middle9 kw_540 kw_541 kw_542 (km_rc B (lw_toM hP)) (by decide) rfl rfl (hcc (by omega) (by omega)) rfl (Nat.le_of_ble_eq_true rfl) hl.1 (lw_toM hP) hS dL_law_624 rfl (fun H locs hP hS => ?_)
        have hP : va_P D vwCl (lw_W G (lw_c (F_middle c (xs (5 * t + 1))) c c) Gm (S_m_middle M (xs (5 * t + 1))) aO (lw_f (F_middle c (xs (5 * t + 1))) f)) H := lw_toC hP
        refine lv_istore (lv' := [(6, .int (F_m_middle M (xs (5 * t + 1)))), (5, .int (lw_k (F_middle c (xs (5 * t + 1))))), (0, .ref b), (1, .ref (aD G)), (2, .ref (bM Gm)), (3, .ref aO), (4, .int (nI (5 * t)))]) hx hb dL_law_627 hl (by decide) rfl (fun ls hl => ?_)
        refine lv_aload_n hx hb dL_law_629 rfl (lv_at hl 4 rfl) ?_
        refine kp_callVR (rm := rm_m_thrown) (As := []) (rest := []) (r := some (.int (F_m_thrown (S_m_middle M (xs (5 * t + 1)))))) (st1 := [.int (F_m_thrown (S_m_middle M (xs (5 * t + 1))))]) B (C_m_thrown l D ty s.heap.size Gm (cw_W G (lw_c (F_middle c (xs (5 * t + 1))) c c) [lw_o1 Gm aO (lw_f (F_middle c (xs (5 * t + 1))) f)]) (hG.m (lw_c (F_middle c (xs (5 * t + 1))) c c) (lw_f (F_middle c (xs (5 * t + 1))) f)) (S_m_middle M (xs (5 * t + 1)))) kt_m_thrown9 kw_489 kw_490 kw_491 (km_rc B (lw_toM hP)) (by decide) ⟨rfl, rfl⟩ (hcc (by omega) (by omega)) rfl (Nat.le_of_ble_eq_true rfl) hl.1 (lw_toM hP) hS dL_law_630 rfl ?_
        refine lv_iload hx hb dL_law_633 (lv_at hl 1 rfl) ?_
        refine lv_icmp_eq (tgt := 640) hx hb dL_law_635 (by decide) (fun q9 => ?_) (fun q9 => absurd ?_ q9)
        · refine lv_iload hx hb dL_law_640 (lv_at hl 1 rfl) ?_
          refine lv_if_ne (tgt := 657) hx hb dL_law_642 (by decide) (fun q8 => ?_) (fun q8 => ?_)
          · refine lv_goto (tgt := 790) hx hb dL_law_657 (by decide) ?_
            exact hN (lw_c (F_middle c (xs (5 * t + 1))) c c) (S_m_middle M (xs (5 * t + 1))) (lw_f (F_middle c (xs (5 * t + 1))) f) H locs (cells + 1) (slots + 6) hag.2 hP hS (by omega) (by omega) ls (lv_sub hl [2, 3, 4, 5, 6] rfl)
          · refine lv_aload_n hx hb dL_law_645 rfl (lv_at hl 5 rfl) ?_
            refine lv_iconst (v := 0) hx hb dL_law_646 (by decide) ?_
            refine kw_oald B hG hP dL_law_647 ?_
            refine lv_iload hx hb dL_law_648 (lv_at hl 0 rfl) ?_
            refine lv_i2l (v := (F_m_middle M (xs (5 * t + 1))).toInt64) hx hb dL_law_650 rfl ?_
            refine kp_leq (tgt := 657) hx hb dL_law_651 dL_law_652 (by decide) (fun q7 => ?_) (fun q7 => absurd (lw_outeq hag.1 q8) q7)
            refine lv_goto (tgt := 790) hx hb dL_law_657 (by decide) ?_
            exact hN (lw_c (F_middle c (xs (5 * t + 1))) c c) (S_m_middle M (xs (5 * t + 1))) (lw_f (F_middle c (xs (5 * t + 1))) f) H locs (cells + 1) (slots + 6) hag.2 hP hS (by omega) (by omega) ls (lv_sub hl [2, 3, 4, 5, 6] rfl)
        · exact lw_threq hag.1
      by_cases h10 : w9 = 10
      · refine lv_tableIn (tgt := 660) hx hb dL_law_39 (by rw [h10]; decide) (by rw [h10]; decide) (by rw [h10]; rfl) (by decide) ?_
        have hag := (hAg c M hRel).2.2.2.2.2.2.2.2.2.2.1 (xs (5 * t + 1))
        refine lv_aload_n hx hb dL_law_660 rfl (lv_at hl 1 rfl) ?_
        refine lv_aload_n hx hb dL_law_661 rfl (lv_at hl 0 rfl) ?_
        refine lv_iload hx hb dL_law_662 (lv_at hl 4 rfl) ?_
        refine lv_iconst (v := 1) hx hb dL_law_664 (by decide) ?_
        refine lv_iadd hx hb dL_law_665 ?_
        refine lw_arg (k := 1) hx hb hX hbl hbA hS (by omega) hL (lw_ik1 _) dL_law_666 ?_
        refine lv_aload_n hx hb dL_law_667 rfl (lv_at hl 3 rfl) ?_
        refine kw_callS (cells1 := cells + 1) (slots1 := slots + 6) (rm := rmW_width) (As := [.ref (aD G), .int (xs (5 * t + 1)), .ref aO]) (rest := []) (r := some (.int (lw_k (F_width c (xs (5 * t + 1)))))) (st1 := [.int (lw_k (F_width c (xs (5 * t + 1))))]) (ws' := lw_W G (lw_c (F_width c (xs (5 * t + 1))) c c) Gm M aO (lw_f (F_width c (xs (5 * t + 1))) f)) B (CW_width l D ty s.heap.size G Gm M aO f hG c (xs (5 * t + 1)) htr) kw_543 kw_544 kwy_width kw_545 kw_546 (fun U hU hA => hH0 U hA (fun z hz => by rw [hU]; exact hS.2.1 z hz (Nat.not_le.mpr hz))) (by decide) rfl rfl (hcc (by omega) (by omega)) rfl (Nat.le_of_ble_eq_true rfl) hl.1 hP hS dL_law_668 rfl (fun H locs hP hS => ?_)
        refine lv_istore (lv' := [(5, .int (lw_k (F_width c (xs (5 * t + 1))))), (0, .ref b), (1, .ref (aD G)), (2, .ref (bM Gm)), (3, .ref aO), (4, .int (nI (5 * t)))]) hx hb dL_law_671 hl (by decide) rfl (fun ls hl => ?_)
        refine lv_aload_n hx hb dL_law_673 rfl (lv_at hl 3 rfl) ?_
        refine lv_aload_n hx hb dL_law_674 rfl (lv_at hl 1 rfl) ?_
        refine lv_iload hx hb dL_law_675 (lv_at hl 5 rfl) ?_
        refine lv_iconst (v := 1) hx hb dL_law_677 (by decide) ?_
        refine lv_iadd hx hb dL_law_678 ?_
        refine lw_arg (k := 1) hx hb hX hbl hbA hS (by omega) hL (lw_ik1 _) dL_law_679 ?_
        refine kp_callV (cells1 := cells + 1) (slots1 := slots + 6) (rm := rm_m_width) (As := [.int (xs (5 * t + 1))]) (rest := []) (r := some (.int (F_m_width M (xs (5 * t + 1))))) (st1 := [.int (F_m_width M (xs (5 * t + 1)))]) (ws' := (mw_W Gm (S_m_width M (xs (5 * t + 1))) (cw_W G (lw_c (F_width c (xs (5 * t + 1))) c c) [lw_o1 Gm aO (lw_f (F_width c (xs (5 * t + 1))) f)]))) B (C_m_width l D ty s.heap.size Gm (cw_W G (lw_c (F_width c (xs (5 * t + 1))) c c) [lw_o1 Gm aO (lw_f (F_width c (xs (5 * t + 1))) f)]) (hG.m (lw_c (F_width c (xs (5 * t + 1))) c c) (lw_f (F_width c (xs (5 * t + 1))) f)) M (xs (5 * t + 1))) kt_m_width9 kw_549 kw_550 kw_551 (km_rc B (lw_toM hP)) (by decide) rfl rfl (hcc (by omega) (by omega)) rfl (Nat.le_of_ble_eq_true rfl) hl.1 (lw_toM hP) hS dL_law_680 rfl (fun H locs hP hS => ?_)
        have hP : va_P D vwCl (lw_W G (lw_c (F_width c (xs (5 * t + 1))) c c) Gm (S_m_width M (xs (5 * t + 1))) aO (lw_f (F_width c (xs (5 * t + 1))) f)) H := lw_toC hP
        refine lv_istore (lv' := [(6, .int (F_m_width M (xs (5 * t + 1)))), (5, .int (lw_k (F_width c (xs (5 * t + 1))))), (0, .ref b), (1, .ref (aD G)), (2, .ref (bM Gm)), (3, .ref aO), (4, .int (nI (5 * t)))]) hx hb dL_law_683 hl (by decide) rfl (fun ls hl => ?_)
        refine lv_aload_n hx hb dL_law_685 rfl (lv_at hl 4 rfl) ?_
        refine kp_callVR (rm := rm_m_thrown) (As := []) (rest := []) (r := some (.int (F_m_thrown (S_m_width M (xs (5 * t + 1)))))) (st1 := [.int (F_m_thrown (S_m_width M (xs (5 * t + 1))))]) B (C_m_thrown l D ty s.heap.size Gm (cw_W G (lw_c (F_width c (xs (5 * t + 1))) c c) [lw_o1 Gm aO (lw_f (F_width c (xs (5 * t + 1))) f)]) (hG.m (lw_c (F_width c (xs (5 * t + 1))) c c) (lw_f (F_width c (xs (5 * t + 1))) f)) (S_m_width M (xs (5 * t + 1)))) kt_m_thrown9 kw_489 kw_490 kw_491 (km_rc B (lw_toM hP)) (by decide) ⟨rfl, rfl⟩ (hcc (by omega) (by omega)) rfl (Nat.le_of_ble_eq_true rfl) hl.1 (lw_toM hP) hS dL_law_686 rfl ?_
        refine lv_iload hx hb dL_law_689 (lv_at hl 1 rfl) ?_
        refine lv_icmp_eq (tgt := 696) hx hb dL_law_691 (by decide) (fun q9 => ?_) (fun q9 => absurd ?_ q9)
        · refine lv_iload hx hb dL_law_696 (lv_at hl 1 rfl) ?_
          refine lv_if_ne (tgt := 713) hx hb dL_law_698 (by decide) (fun q8 => ?_) (fun q8 => ?_)
          · refine lv_goto (tgt := 790) hx hb dL_law_713 (by decide) ?_
            exact hN (lw_c (F_width c (xs (5 * t + 1))) c c) (S_m_width M (xs (5 * t + 1))) (lw_f (F_width c (xs (5 * t + 1))) f) H locs (cells + 1) (slots + 6) hag.2 hP hS (by omega) (by omega) ls (lv_sub hl [2, 3, 4, 5, 6] rfl)
          · refine lv_aload_n hx hb dL_law_701 rfl (lv_at hl 5 rfl) ?_
            refine lv_iconst (v := 0) hx hb dL_law_702 (by decide) ?_
            refine kw_oald B hG hP dL_law_703 ?_
            refine lv_iload hx hb dL_law_704 (lv_at hl 0 rfl) ?_
            refine lv_i2l (v := (F_m_width M (xs (5 * t + 1))).toInt64) hx hb dL_law_706 rfl ?_
            refine kp_leq (tgt := 713) hx hb dL_law_707 dL_law_708 (by decide) (fun q7 => ?_) (fun q7 => absurd (lw_outeq hag.1 q8) q7)
            refine lv_goto (tgt := 790) hx hb dL_law_713 (by decide) ?_
            exact hN (lw_c (F_width c (xs (5 * t + 1))) c c) (S_m_width M (xs (5 * t + 1))) (lw_f (F_width c (xs (5 * t + 1))) f) H locs (cells + 1) (slots + 6) hag.2 hP hS (by omega) (by omega) ls (lv_sub hl [2, 3, 4, 5, 6] rfl)
        · exact lw_threq hag.1
      by_cases h11 : w9 = 11
      · refine lv_tableIn (tgt := 716) hx hb dL_law_39 (by rw [h11]; decide) (by rw [h11]; decide) (by rw [h11]; rfl) (by decide) ?_
        have hag := (hAg c M hRel).2.2.2.2.2.2.2.2.2.2.2.1 (xs (5 * t + 1)) (xs (5 * t + 2))
        refine lv_aload_n hx hb dL_law_716 rfl (lv_at hl 1 rfl) ?_
        refine lv_aload_n hx hb dL_law_717 rfl (lv_at hl 0 rfl) ?_
        refine lv_iload hx hb dL_law_718 (lv_at hl 4 rfl) ?_
        refine lv_iconst (v := 1) hx hb dL_law_720 (by decide) ?_
        refine lv_iadd hx hb dL_law_721 ?_
        refine lw_arg (k := 1) hx hb hX hbl hbA hS (by omega) hL (lw_ik1 _) dL_law_722 ?_
        refine lv_aload_n hx hb dL_law_723 rfl (lv_at hl 0 rfl) ?_
        refine lv_iload hx hb dL_law_724 (lv_at hl 4 rfl) ?_
        refine lv_iconst (v := 2) hx hb dL_law_726 (by decide) ?_
        refine lv_iadd hx hb dL_law_727 ?_
        refine lw_arg (k := 2) hx hb hX hbl hbA hS (by omega) hL (lw_ik2 _) dL_law_728 ?_
        refine kp_callVR (rm := rm_compare) (As := [.int (xs (5 * t + 1)), .int (xs (5 * t + 2))]) (rest := []) (r := some (.int (F_compare c (xs (5 * t + 1)) (xs (5 * t + 2))))) (st1 := [.int (F_compare c (xs (5 * t + 1)) (xs (5 * t + 2)))]) B (C_compare l D ty s.heap.size G (mw_W Gm M [lw_o1 Gm aO f]) (hG.c M f) c (xs (5 * t + 1)) (xs (5 * t + 2))) kt_compare9 kw_554 kw_555 kw_556 (kc_rcD B hP) (by decide) ⟨rfl, rfl⟩ (hcc (by omega) (by omega)) rfl (Nat.le_of_ble_eq_true rfl) hl.1 hP hS dL_law_729 rfl ?_
        refine lv_aload_n hx hb dL_law_732 rfl (lv_at hl 2 rfl) ?_
        refine lv_aload_n hx hb dL_law_733 rfl (lv_at hl 0 rfl) ?_
        refine lv_iload hx hb dL_law_734 (lv_at hl 4 rfl) ?_
        refine lv_iconst (v := 1) hx hb dL_law_736 (by decide) ?_
        refine lv_iadd hx hb dL_law_737 ?_
        refine lw_arg (k := 1) hx hb hX hbl hbA hS (by omega) hL (lw_ik1 _) dL_law_738 ?_
        refine lv_aload_n hx hb dL_law_739 rfl (lv_at hl 0 rfl) ?_
        refine lv_iload hx hb dL_law_740 (lv_at hl 4 rfl) ?_
        refine lv_iconst (v := 2) hx hb dL_law_742 (by decide) ?_
        refine lv_iadd hx hb dL_law_743 ?_
        refine lw_arg (k := 2) hx hb hX hbl hbA hS (by omega) hL (lw_ik2 _) dL_law_744 ?_
        refine kp_callV (cells1 := cells) (slots1 := slots) (rm := rm_m_compare) (As := [.int (xs (5 * t + 1)), .int (xs (5 * t + 2))]) (rest := [.int (F_compare c (xs (5 * t + 1)) (xs (5 * t + 2)))]) (r := some (.int (F_m_compare M (xs (5 * t + 1)) (xs (5 * t + 2))))) (st1 := [.int (F_m_compare M (xs (5 * t + 1)) (xs (5 * t + 2))), .int (F_compare c (xs (5 * t + 1)) (xs (5 * t + 2)))]) (ws' := (mw_W Gm (S_m_compare M (xs (5 * t + 1)) (xs (5 * t + 2))) (cw_W G c [lw_o1 Gm aO f]))) B (C_m_compare l D ty s.heap.size Gm (cw_W G c [lw_o1 Gm aO f]) (hG.m c f) M (xs (5 * t + 1)) (xs (5 * t + 2))) kt_m_compare9 kw_559 kw_560 kw_561 (km_rc B (lw_toM hP)) (by decide) rfl rfl (hcc (by omega) (by omega)) rfl (Nat.le_of_ble_eq_true rfl) hl.1 (lw_toM hP) hS dL_law_745 rfl (fun H locs hP hS => ?_)
        have hP : va_P D vwCl (lw_W G c Gm (S_m_compare M (xs (5 * t + 1)) (xs (5 * t + 2))) aO f) H := lw_toC hP
        refine lv_icmp_eq (tgt := 790) hx hb dL_law_748 (by decide) (fun q9 => ?_) (fun q9 => absurd ?_ q9)
        · exact hN c (S_m_compare M (xs (5 * t + 1)) (xs (5 * t + 2))) f H locs cells slots hag.2 hP hS (by omega) (by omega) ls (lv_sub hl [0, 1, 2, 3, 4] rfl)
        · exact hag.1
      by_cases h12 : w9 = 12
      · refine lv_tableIn (tgt := 753) hx hb dL_law_39 (by rw [h12]; decide) (by rw [h12]; decide) (by rw [h12]; rfl) (by decide) ?_
        have hag := (hAg c M hRel).2.2.2.2.2.2.2.2.2.2.2.2 (xs (5 * t + 1)) (xs (5 * t + 2))
        refine lv_aload_n hx hb dL_law_753 rfl (lv_at hl 1 rfl) ?_
        refine lv_aload_n hx hb dL_law_754 rfl (lv_at hl 0 rfl) ?_
        refine lv_iload hx hb dL_law_755 (lv_at hl 4 rfl) ?_
        refine lv_iconst (v := 1) hx hb dL_law_757 (by decide) ?_
        refine lv_iadd hx hb dL_law_758 ?_
        refine lw_arg (k := 1) hx hb hX hbl hbA hS (by omega) hL (lw_ik1 _) dL_law_759 ?_
        refine lv_aload_n hx hb dL_law_760 rfl (lv_at hl 0 rfl) ?_
        refine lv_iload hx hb dL_law_761 (lv_at hl 4 rfl) ?_
        refine lv_iconst (v := 2) hx hb dL_law_763 (by decide) ?_
        refine lv_iadd hx hb dL_law_764 ?_
        refine lw_arg (k := 2) hx hb hX hbl hbA hS (by omega) hL (lw_ik2 _) dL_law_765 ?_
        refine kp_callVR (rm := rm_has) (As := [.int (xs (5 * t + 1)), .int (xs (5 * t + 2))]) (rest := []) (r := some (.int (F_has c (xs (5 * t + 1)) (xs (5 * t + 2))))) (st1 := [.int (F_has c (xs (5 * t + 1)) (xs (5 * t + 2)))]) B (C_has l D ty s.heap.size G (mw_W Gm M [lw_o1 Gm aO f]) (hG.c M f) c (xs (5 * t + 1)) (xs (5 * t + 2))) kt_has9 kw_564 kw_565 kw_566 (kc_rcD B hP) (by decide) ⟨rfl, rfl⟩ (hcc (by omega) (by omega)) rfl (Nat.le_of_ble_eq_true rfl) hl.1 hP hS dL_law_766 rfl ?_
        refine lv_aload_n hx hb dL_law_769 rfl (lv_at hl 2 rfl) ?_
        refine lv_aload_n hx hb dL_law_770 rfl (lv_at hl 0 rfl) ?_
        refine lv_iload hx hb dL_law_771 (lv_at hl 4 rfl) ?_
        refine lv_iconst (v := 1) hx hb dL_law_773 (by decide) ?_
        refine lv_iadd hx hb dL_law_774 ?_
        refine lw_arg (k := 1) hx hb hX hbl hbA hS (by omega) hL (lw_ik1 _) dL_law_775 ?_
        refine lv_aload_n hx hb dL_law_776 rfl (lv_at hl 0 rfl) ?_
        refine lv_iload hx hb dL_law_777 (lv_at hl 4 rfl) ?_
        refine lv_iconst (v := 2) hx hb dL_law_779 (by decide) ?_
        refine lv_iadd hx hb dL_law_780 ?_
        refine lw_arg (k := 2) hx hb hX hbl hbA hS (by omega) hL (lw_ik2 _) dL_law_781 ?_
        refine kp_callV (cells1 := cells) (slots1 := slots) (rm := rm_m_has) (As := [.int (xs (5 * t + 1)), .int (xs (5 * t + 2))]) (rest := [.int (F_has c (xs (5 * t + 1)) (xs (5 * t + 2)))]) (r := some (.int (F_m_has M (xs (5 * t + 1)) (xs (5 * t + 2))))) (st1 := [.int (F_m_has M (xs (5 * t + 1)) (xs (5 * t + 2))), .int (F_has c (xs (5 * t + 1)) (xs (5 * t + 2)))]) (ws' := (mw_W Gm (S_m_has M (xs (5 * t + 1)) (xs (5 * t + 2))) (cw_W G c [lw_o1 Gm aO f]))) B (C_m_has l D ty s.heap.size Gm (cw_W G c [lw_o1 Gm aO f]) (hG.m c f) M (xs (5 * t + 1)) (xs (5 * t + 2))) kt_m_has9 kw_569 kw_570 kw_571 (km_rc B (lw_toM hP)) (by decide) rfl rfl (hcc (by omega) (by omega)) rfl (Nat.le_of_ble_eq_true rfl) hl.1 (lw_toM hP) hS dL_law_782 rfl (fun H locs hP hS => ?_)
        have hP : va_P D vwCl (lw_W G c Gm (S_m_has M (xs (5 * t + 1)) (xs (5 * t + 2))) aO f) H := lw_toC hP
        refine lv_icmp_eq (tgt := 790) hx hb dL_law_785 (by decide) (fun q9 => ?_) (fun q9 => absurd ?_ q9)
        · exact hN c (S_m_has M (xs (5 * t + 1)) (xs (5 * t + 2))) f H locs cells slots hag.2 hP hS (by omega) (by omega) ls (lv_sub hl [0, 1, 2, 3, 4] rfl)
        · exact hag.1
      refine lv_tableOut (tgt := 790) hx hb dL_law_39 (lw_out13 h0 h1 h2 h3 h4 h5 h6 h7 h8 h9 h10 h11 h12) (by decide) ?_
      exact hN c M f H locs cells slots hRel hP hS (by omega) (by omega) ls (lv_sub hl [0, 1, 2, 3, 4] rfl)
