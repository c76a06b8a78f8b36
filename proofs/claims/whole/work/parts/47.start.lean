-- the law's start
theorem st_1 : Cond.classLink RL 8 RX2 ∈ lw_tbl := by decide +kernel
theorem st_2 : Cond.instantiable RX2 4 ∈ lw_tbl := by decide +kernel
theorem st_3 : Cond.initialized RX2 ∈ lw_tbl := by decide +kernel
theorem st_4 : Cond.methodLink RL 37 yX2_init ∈ lw_tbl := by decide +kernel
theorem st_5 : Cond.instanceMethod yX2_init ∈ lw_tbl := by decide +kernel
theorem st_6 : Cond.code yX2_init cX2_init 2 none ∈ lw_tbl := by decide +kernel
theorem st_7 : Cond.initialized yX2_init.cls ∈ lw_tbl := by decide +kernel
theorem st_T2 : kp_T yX2_init cX2_init 2 none 0 := ⟨st_6, st_7, by decide +kernel, by decide +kernel⟩
theorem st_11 : Cond.classLink RL 38 RX3 ∈ lw_tbl := by decide +kernel
theorem st_12 : Cond.instantiable RX3 12 ∈ lw_tbl := by decide +kernel
theorem st_13 : Cond.initialized RX3 ∈ lw_tbl := by decide +kernel
theorem st_14 : Cond.methodLink RL 40 yX3_init ∈ lw_tbl := by decide +kernel
theorem st_15 : Cond.instanceMethod yX3_init ∈ lw_tbl := by decide +kernel
theorem st_16 : Cond.code yX3_init cX3_init 1 none ∈ lw_tbl := by decide +kernel
theorem st_17 : Cond.initialized yX3_init.cls ∈ lw_tbl := by decide +kernel
theorem st_T3 : kp_T yX3_init cX3_init 1 none 0 := ⟨st_16, st_17, by decide +kernel, by decide +kernel⟩
theorem st_l1 : Cond.laysStatic Bundle.tN "UNASSIGNED_STACK" Bundle.steD ∈ lw_tbl := by decide +kernel
theorem st_l2 : Cond.laysStatic Bundle.tN "SUPPRESSED_SENTINEL" Bundle.listD ∈ lw_tbl := by decide +kernel
theorem st_nd {A : Nat → Prop} {ws : va_W} (h : va_D A ws) : (ws.map (·.1)).Nodup := by
  refine List.pairwise_iff_getElem.mpr (fun i j hi hj hij q => ?_)
  have hi' : i < ws.length := by simpa using hi
  have hj' : j < ws.length := by simpa using hj
  have := h.1 i j ws[i] ws[j] (List.getElem?_eq_getElem hi') (List.getElem?_eq_getElem hj') (by simpa using q)
  omega
theorem st_al {A : Nat → Prop} {ws : va_W} (h : va_D A ws) : ∀ a ∈ ws.map (·.1), A a := by
  intro a ha
  obtain ⟨q, hq, rfl⟩ := List.mem_map.mp ha
  obtain ⟨k, hk⟩ := List.getElem?_of_mem hq
  exact h.2 k q hk
theorem st_un {u U : State} (hvm : u.vm.Alike U.vm) {cA cB : ClassId} {ty : FieldType} (h1 : va_RA u cA ty) (h2 : va_RA U cB ty) : cA = cB := by
  have h3 := va_RA.moved hvm h1
  cases ty with
  | object C =>
    obtain ⟨_, _, _, _, _, a⟩ := h3
    obtain ⟨_, _, _, _, _, b⟩ := h2
    exact Option.some.inj (a.symm.trans b)
  | _ => exact Option.some.inj (Eq.trans (Eq.symm h3) h2)
theorem st_k1 {D : va_G} {cl : List vw_C} {s : State} {cA : ClassId} {ty : FieldType} (hK : va_K D cl [] s) (h : ArrOfT s cA ty ∧ va_RA s cA ty) : va_K D cl [(cA, ty)] s := by
  refine ⟨hK.1, fun k q hk => ?_⟩
  have hz : k < 1 := (List.getElem?_eq_some_iff.mp hk).1
  rw [show k = 0 by omega] at hk
  cases hk
  exact h
theorem st_bl {D : va_G} {ty : List (ClassId × FieldType)} {sz : Nat} {ws : va_W} {P : Prop} {av : List Value} : FrameBlind (va_Pc av (fun U => kp_P D ty sz ws U ∧ P)) := by
  intro a U g mk h
  obtain ⟨h0, h1, h2⟩ := h
  exact ⟨h0, (kp_P.blind (av := av) a U g mk ⟨h0, h1⟩).2, h2⟩
section STR
variable {p : Program} {l : Launch} {e : Env} {R : Room} {s : State} {m : MethodId} {args : Array Value} {below : List Frame} {meth : Method} {c : Code} {H : Heap} {locs : List Loc} {cells slots : Nat} {Q : State → Prop}
variable {own : String} {cc : ByteArray} {nL : Nat} {ret : Option FieldType} {D : va_G} {ty : List (ClassId × FieldType)} {sz pc index b : Nat} {ls : Array Slot} {rest st0 As : List Value}
variable {y : MethodName} {bytes : ByteArray} {maxL : Nat} {rm : Room} {Pc : Array Value → State → Prop} {Qc : Array Value → State → Outcome → State → Prop}
/-- a constructor, by a contract that says more than the cells -/
theorem st_call (B : kp_B p l s m args meth c own cc nL ret D ty sz) (hM : Met l y [Cond.code y bytes maxL none] rm Pc Qc rm.cells rm.slots (kp_A sz)) (hbl : FrameBlind Pc) (hpre : ∀ U : State, U.heap = H → s.WarmedH U.vm → Pc (Value.ref b :: As).toArray U) (hF : ∀ a st oc t, Qc a st oc t → va_F (kp_A sz) st t)
    (hT : kp_T y bytes maxL none As.length) (hn : y.name = "<init>") (hl : Cond.methodLink own index y ∈ lw_tbl) (hi : Cond.instanceMethod y ∈ lw_tbl)
    (hR : rm.frames + 1 ≤ R.frames ∧ 8 + (maxL + 11) + rm.locals ≤ R.locals) (hC : cells + rm.cells ≤ R.cells ∧ slots + rm.slots ≤ R.slots) (hst : st0 = As.reverse ++ .ref b :: rest) (hrt : (rest.map fun v => v.category).sum ≤ 8) (hls : ls.size = nL)
    (hS : va_S (kp_A sz) s.heap H locs) (hdg : decode cc pc = .ok (.invokespecial index, 3))
    (kk : ∀ (v : Option Value) (st t : State) (H1 : Heap) (locs1 : List Loc), t.heap = H1 → s.vm.Alike t.vm → Qc (Value.ref b :: As).toArray st (.returned v) t → va_S (kp_A sz) s.heap H1 locs1 → W p l e R s m args below meth c H1 locs1 (cells + rm.cells) (slots + rm.slots) Q (F0 m (pc + 3) ls (v.toList ++ rest))) : W p l e R s m args below meth c H locs cells slots Q (F0 m pc ls st0) := by
  obtain ⟨hx, hb, hml, ho, hlk, hr, hw, hE, hK, -⟩ := B
  obtain ⟨t1, t2, t3, t4⟩ := hT
  intro T hT0 X
  obtain ⟨v, st₀, t, T', L, h0, X', hL, e1, e2, hq, stp⟩ := va_runI (Ts := []) (bytes := bytes) (maxL := maxL) (n := As.length) (As := As) (rest := rest) (b := b) (g := F0 m pc ls st0) (locs := locs) (cells := cells) (slots := slots) (e := e) (below := below) (meth := meth) ⟨hx, hb, hml, ho, fun _ h => nomatch h⟩ hM
    ⟨⟨rfl, rfl, hR.1, hR.2, kp_code1 hw t1, List.mem_singleton.mpr rfl, hw _ t1 rfl, hw _ t2 rfl, t3, fun sig h => by rw [h] at t4; exact (Option.some.inj t4).symm, hw _ hl rfl⟩, hn, hw _ hi rfl⟩
    ⟨hbl, hpre⟩ rfl rfl hls hst (lv_room hrt) hdg hC T hT0 X
  obtain ⟨hz, hk⟩ := hF _ _ _ _ hq
  rw [h0] at hz hk
  obtain ⟨t2', a1, b1⟩ := kk v st₀ t T'.heap (locs ++ L) e1.symm (by rw [← e2]; exact X'.warmed.alike) hq
    ⟨Nat.le_trans hS.1 (by rw [e1]; exact hz), fun q h1 h2 => by rw [e1, hk q (Nat.lt_of_lt_of_le h1 hS.1) h2]; exact hS.2.1 q h1 h2, fun q hq => by
      rcases List.mem_append.mp hq with h | h
      · exact hS.2.2 q h
      · exact hL q h⟩ T' rfl X'
  exact ⟨t2', stp t2' a1, b1⟩
end STR
theorem st_v0 {q : Nat} (j : Nat) (hj : j < 4) : defaultValue (tyX2 j) = vp_V [.null, .null, .null, .null] j := by
  rcases (show j = 0 ∨ j = 1 ∨ j = 2 ∨ j = 3 by omega) with rfl | rfl | rfl | rfl <;> rfl
theorem st_v1 (j : Nat) (hj : j < 12) : defaultValue (tyX3 j) = vp_V [.int 0, .int 0, .int 0, .null, .null, .null, .int 0, .long 0, .long 0, .int 0, .long 0, .long 0] j := by
  rcases km_12 hj with rfl | rfl | rfl | rfl | rfl | rfl | rfl | rfl | rfl | rfl | rfl | rfl <;> rfl
set_option maxHeartbeats 4000000 in
set_option maxRecDepth 100000 in
theorem whole_start {p : Program} {e : Env} {s : State} {m : MethodId} {below : List Frame} {meth : Method} {c : Code} (l : Launch) (htr : l.stackTraces = false) {b L : Nat} {xs : Nat → Int32} (hL : L ≤ 2560) (C0 : lw_At p s m meth c b L xs) : W p l e room_1 s m #[Value.ref b] below meth c s.heap [] 0 0 (lw_Z below #[Value.ref b] s) (entryFrame m ([Value.ref b] : List Value).toArray 7) := by
  have C9 := C0
  obtain ⟨hx, hb, hr, hml, hown, hts, hX, hbl, hlocks, hgv⟩ := C0
  have hE : kp_E s := kp_E.of hts
  have hw : ∀ w ∈ lw_tbl, kp_w w = true → w.before #[Value.ref b] s = true := hE.use
  obtain ⟨c0, i0, k0⟩ := u_known (C := RX0) (T := TX0) (N := 2) (n := 2) hts (fun w h => (ul_S w h).1) (hts _ kw_435)
  obtain ⟨c1, i1, k1⟩ := u_known (C := RX1) (T := TX1) (N := 2) (n := 2) hts (fun w h => (ul_N w h).1) (hts _ kw_441)
  obtain ⟨c2, i2, k2⟩ := u_known (C := RX2) (T := TX2) (N := 4) (n := 4) hts (fun w h => (ul_D w h).1) (hts _ st_2)
  obtain ⟨c3, i3, k3⟩ := u_known (C := RX3) (T := TX3) (N := 12) (n := 12) hts (fun w h => (ul_M w h).1) (hts _ st_12)
  obtain ⟨D, hK⟩ : ∃ D : va_G, va_K D vwCl [] s := by
    refine ⟨(fun c => match c with | 0 => c0 | 1 => c1 | 2 => c2 | _ => c3, fun c => match c with | 0 => i0 | 1 => i1 | 2 => i2 | _ => i3), fun c q hc => ?_, fun k q hk => by simp at hk⟩
    have hz : c < 4 := (List.getElem?_eq_some_iff.mp hc).1
    rcases (show c = 0 ∨ c = 1 ∨ c = 2 ∨ c = 3 by omega) with rfl | rfl | rfl | rfl
    · cases hc; exact k0
    · cases hc; exact k1
    · cases hc; exact k2
    · cases hc; exact k3
  clear k0 k1 k2 k3 c0 c1 c2 c3 i0 i1 i2 i3
  obtain ⟨cA, hcA⟩ : ∃ cA, ArrOfT s cA (.object RX1) ∧ va_RA s cA (.object RX1) := by
    obtain ⟨comp, k, kA, h1, h2, h3, h4, h5⟩ := Cond.arrayOver_spec (hts _ kw_440)
    exact ⟨k, fun N z => ⟨(fun k h => by cases h), kA, h3, comp, h4⟩, kA, comp, h3, h4, h1, h5⟩
  obtain ⟨cZ, hcZ⟩ : ∃ cA, ArrOfT s cA .boolean ∧ va_RA s cA .boolean := by
    obtain ⟨k, kA, comp, h1, h2, h3⟩ := Cond.arrayClass_spec (hts _ kw_446)
    exact ⟨k, fun N z => ⟨(fun k h => by cases h), kA, h2, comp, h3⟩, h1⟩
  obtain ⟨cJ, hcJ⟩ : ∃ cA, ArrOfT s cA .long ∧ va_RA s cA .long := by
    obtain ⟨k, kA, comp, h1, h2, h3⟩ := Cond.arrayClass_spec (hts _ kw_447)
    exact ⟨k, fun N z => ⟨(fun k h => by cases h), kA, h2, comp, h3⟩, h1⟩
  have B : kp_B p l s m #[Value.ref b] meth c RL cL_law 7 ret D [] s.heap.size := ⟨hx, hb, hml, hown, hlocks, hr, hw, hE, hK, Nat.le_refl _⟩
  have hl := lv_entry [Value.ref b] (n := 7) (Nat.le_of_ble_eq_true rfl)
  rw [lg_entry_eq]
  generalize (lg_sl [Value.ref b] ++ List.replicate (7 - (lg_sl [Value.ref b]).length) Slot.unset).toArray = ls at hl ⊢
  have hl : lv_has ls 7 [(0, .ref b)] := hl
  have hP : va_P D vwCl [] s.heap := fun k q h => by simp at h
  have hD : va_D (kp_A s.heap.size) [] := ⟨fun i j p q h => by simp at h, fun k q h => by simp at h⟩
  have hS : va_S (kp_A s.heap.size) s.heap s.heap [] := va_S.rf
  have hA : ∀ z : Nat, s.heap.size ≤ z → kp_A s.heap.size z := fun z h => h
  -- the desk
  refine va_new (ci := 2) (fs := [.null, .null, .null, .null]) (C := RX2) (T := TX2) (N := 4) hx hb (Ts := u_ws RX2 TX2 4) (fun w h => hw w (ul_D w h).1 (ul_D w h).2) (fun _ h => h) tyX2 tyX2_ok hown (hts _ st_1) (hts _ st_2) (hts _ st_3) hK hP hD hS hA rfl (st_v0 (q := 0)) (by decide) (by decide) dL_law_0 (fun q H hP hD hS => ?_)
  have hP : va_P D vwCl [(q, .inr (2, [.null, .null, .null, .null]))] H := hP
  have hD : va_D (kp_A s.heap.size) [(q, .inr (2, [.null, .null, .null, .null]))] := hD
  refine lv_dup hx hb dL_law_3 rfl ?_
  refine st_call (rm := rm_Dinit) (As := []) (b := q) (rest := [.ref q]) B (C_Dinit l D s.heap.size q) st_bl (fun U hU hW => ?_) (fun a st oc t h => h.2) st_T2 rfl st_4 st_5 (by decide) (by decide) rfl (Nat.le_of_ble_eq_true rfl) hl.1 hS dL_law_4 (fun v st t H locs ht hvm hQ hS => ?_)
  · have h9 := kp_P.at (av := [.ref q]) hE hK hP (kp_hz B hS) U hU hW
    exact ⟨h9.1, h9.2, hD⟩
  obtain ⟨⟨G, hv, hq, hP1, hKt, hD1⟩, -⟩ := hQ
  cases hv
  subst hq
  rw [ht] at hP1
  have eA : cA = aA G := st_un hvm hcA.2 (hKt.2 0 _ rfl).2
  rw [eA] at hcA
  have hK1 : va_K D vwCl [(aA G, .object RX1)] s := st_k1 hK hcA
  clear hKt ht hvm st t
  refine W.eq (g2 := F0 m 7 ls [.ref (aD G)]) rfl ?_
  refine lv_astore_n (lv' := [(1, .ref (aD G)), (0, .ref b)]) hx hb dL_law_7 rfl hl (by decide) rfl (fun ls hl => ?_)
  -- the reference
  refine va_new (ci := 3) (fs := [.int 0, .int 0, .int 0, .null, .null, .null, .int 0, .long 0, .long 0, .int 0, .long 0, .long 0]) (C := RX3) (T := TX3) (N := 12) hx hb (Ts := u_ws RX3 TX3 12) (fun w h => hw w (ul_M w h).1 (ul_M w h).2) (fun _ h => h) tyX3 tyX3_ok hown (hts _ st_11) (hts _ st_12) (hts _ st_13) hK1 hP1 hD1 hS hA rfl st_v1 (by decide) (by decide) dL_law_8 (fun q H hP hD hS => ?_)
  have hP : va_P D vwCl ((q, .inr (3, [.int 0, .int 0, .int 0, .null, .null, .null, .int 0, .long 0, .long 0, .int 0, .long 0, .long 0])) :: cw_W G kd_c0 []) H := hP.sub [13, 0, 1, 2, 3, 4, 5, 6, 7, 8, 9, 10, 11, 12] rfl
  have hD : va_D (kp_A s.heap.size) ((q, .inr (3, [.int 0, .int 0, .int 0, .null, .null, .null, .int 0, .long 0, .long 0, .int 0, .long 0, .long 0])) :: cw_W G kd_c0 []) := hD.sub [13, 0, 1, 2, 3, 4, 5, 6, 7, 8, 9, 10, 11, 12] (by decide) rfl
  have B1 : kp_B p l s m #[Value.ref b] meth c RL cL_law 7 ret D [(aA G, .object RX1)] s.heap.size := ⟨hx, hb, hml, hown, hlocks, hr, hw, hE, hK1, Nat.le_refl _⟩
  refine lv_dup hx hb dL_law_11 rfl ?_
  refine st_call (rm := rm_Minit) (As := []) (b := q) (rest := [.ref q]) B1 (C_Minit l D s.heap.size q G) st_bl (fun U hU hW => ?_) (fun a st oc t h => h.2) st_T3 rfl st_14 st_15 (by decide) (by decide) rfl (Nat.le_of_ble_eq_true rfl) hl.1 hS dL_law_12 (fun v st t H locs ht hvm hQ hS => ?_)
  · have h9 := kp_P.at (av := [.ref q]) hE hK1 hP (kp_hz B1 hS) U hU hW
    exact ⟨h9.1, h9.2, hD⟩
  obtain ⟨⟨Gm, hv, hq, hP2, hKt, hD2⟩, -⟩ := hQ
  cases hv
  subst hq
  rw [ht] at hP2
  have eZ : cZ = bZ Gm := st_un hvm hcZ.2 (hKt.2 1 _ rfl).2
  have eJ : cJ = bJ Gm := st_un hvm hcJ.2 (hKt.2 2 _ rfl).2
  rw [eZ] at hcZ
  rw [eJ] at hcJ
  have hK3 : va_K D vwCl [(aA G, .object RX1), (bZ Gm, .boolean), (bJ Gm, .long)] s := va_K.app hK1 (va_K.app (st_k1 hK hcZ) (st_k1 hK hcJ))
  clear hKt ht hvm st t
  refine W.eq (g2 := F0 m 15 ls [.ref (bM Gm)]) rfl ?_
  refine lv_astore_n (lv' := [(2, .ref (bM Gm)), (1, .ref (aD G)), (0, .ref b)]) hx hb dL_law_15 rfl hl (by decide) rfl (fun ls hl => ?_)
  refine lv_iconst (v := 1) hx hb dL_law_16 (by decide) ?_
  refine va_newa (atype := .long) (ty := .long) (a0 := (1, .inr (.inl (fun _ => 0)))) (N' := 1) hx hb (hts _ kw_447) rfl hK3 hP2 hD2 hS hA (fun _ => rfl) (by decide) (by decide) (by decide) (by decide) (by decide) dL_law_17 (fun aO cK H hK9 hP hD hS => ?_)
  have eK : cK = bJ Gm := (st_un (Vm.Alike.refl s.vm) (hK9.2 3 _ rfl).2 (hK9.2 2 _ rfl).2)
  subst eK
  have hP : va_P D vwCl (lw_W G kd_c0 Gm km_c0 aO (fun _ => 0)) H := hP.sub [4, 5, 6, 7, 8, 9, 10, 11, 12, 13, 14, 15, 16, 0, 1, 2, 3, 17] rfl
  have hD : va_D (kp_A s.heap.size) (lw_W G kd_c0 Gm km_c0 aO (fun _ => 0)) := hD.sub [4, 5, 6, 7, 8, 9, 10, 11, 12, 13, 14, 15, 16, 0, 1, 2, 3, 17] (by decide) rfl
  have hG : lw_ok [(aA G, .object RX1), (bZ Gm, .boolean), (bJ Gm, .long)] s.heap.size G Gm aO := ⟨rfl, rfl, rfl, st_nd hD, st_al hD⟩
  refine lv_astore_n (lv' := [(3, .ref aO), (2, .ref (bM Gm)), (1, .ref (aD G)), (0, .ref b)]) hx hb dL_law_19 rfl hl (by decide) rfl (fun ls hl => ?_)
  refine lv_iconst (v := 0) hx hb dL_law_20 (by decide) ?_
  refine lv_istore (lv' := [(4, .int 0), (3, .ref aO), (2, .ref (bM Gm)), (1, .ref (aD G)), (0, .ref b)]) hx hb dL_law_21 hl (by decide) rfl (fun ls hl => ?_)
  have hH0 : ∀ U : State, s.vm.Alike U.vm → (∀ q, q < s.heap.size → U.heap[q]? = s.heap[q]?) → kx_H U := by
    intro U hvm hq
    refine kx_H.of (A := #[Value.ref b]) (fun w hw => ?_) hvm hq
    simp only [kx_ws, List.mem_cons, List.not_mem_nil, or_false] at hw
    rcases hw with rfl | rfl | rfl | rfl
    · exact flat_of_before _ hgv _ (by decide +kernel)
    · exact flat_of_before _ hgv _ (by decide +kernel)
    · exact hts _ st_l1
    · exact hts _ st_l2
  exact law_loop agree hL C9 htr hG hK3 hH0 513 0 kd_c0 km_c0 (fun _ => 0) H locs _ _ (by omega) (by omega) (by decide) (by decide) rel0 hP hS ls (lv_sub hl [4, 3, 2, 1, 0] rfl)
