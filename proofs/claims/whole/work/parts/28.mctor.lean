def rm_Minit : Room := { frames := 1, cells := 3, slots := 24, locals := 12 }
def km_c0 : mw_C := ((0, 4, 10), (fun _ => false, fun _ => 0, fun _ => 0), (false, 0, 0), (false, 0, 0))
def km_Q (D : va_G) (sz q : Nat) (G : cw_G) : Array Value → State → Outcome → State → Prop := fun _ st oc t =>
  (∃ (Gm : mw_G), oc = .returned none ∧ bM Gm = q ∧ va_P D vwCl (mw_W Gm km_c0 (cw_W G kd_c0 [])) t.heap ∧ va_K D vwCl [(aA G, .object RX1), (bZ Gm, .boolean), (bJ Gm, .long)] t ∧ va_D (kp_A sz) (mw_W Gm km_c0 (cw_W G kd_c0 []))) ∧ va_F (kp_A sz) st t
set_option maxHeartbeats 4000000 in
set_option maxRecDepth 100000 in
theorem C_Minit (l : Launch) (D : va_G) (sz q : Nat) (G : cw_G) : Met l yX3_init [Cond.code yX3_init cX3_init 1 none] rm_Minit (va_Pc [.ref q] (fun U => kp_P D [(aA G, .object RX1)] sz ((q, .inr (3, [.int 0, .int 0, .int 0, .null, .null, .null, .int 0, .long 0, .long 0, .int 0, .long 0, .long 0])) :: cw_W G kd_c0 []) U ∧ va_D (kp_A sz) ((q, .inr (3, [.int 0, .int 0, .int 0, .null, .null, .null, .int 0, .long 0, .long 0, .int 0, .long 0, .long 0])) :: cw_W G kd_c0 []))) (km_Q D sz q G) rm_Minit.cells rm_Minit.slots (kp_A sz) := by
  refine Met.ofW (cc := cX3_init) (maxL := 1) (ret := none) (by decide) rfl ?_
  intro p e s m args below meth cd s₁ B9 hml hv
  obtain ⟨rfl, ⟨hE, hK, hP, hsz⟩, hD⟩ := hv
  have hin : yX3_init.name = "<init>" → meth.name = "<init>" := fun h => (name_of_methodNamed B9.named B9.method).1.trans h
  have B : kp_B p l s m [Value.ref q].toArray meth cd RX3 cX3_init 1 none D [(aA G, .object RX1)] sz := ⟨B9.exec, B9.bytes, hml, findClass_of_methodNamed B9.named, B9.notSynchronized, B9.returns, hE.use, hE, hK, hsz⟩
  have hl := lv_entry ([.ref q]) (n := 1) (Nat.le_of_ble_eq_true rfl)
  rw [lg_entry_eq]
  generalize (lg_sl ([.ref q]) ++ List.replicate (1 - (lg_sl ([.ref q])).length) Slot.unset).toArray = ls at hl ⊢
  have hl : lv_has ls 1 [(0, .ref q)] := hl
  have hS : va_S (kp_A sz) s.heap s.heap [] := va_S.rf
  have hA : ∀ z : Nat, s.heap.size ≤ z → kp_A sz z := fun z h => Nat.le_trans hsz h
  show W p l e rm_Minit s m [Value.ref q].toArray below meth cd s.heap [] 0 0 (MQ below (km_Q D sz q G) [Value.ref q].toArray s rm_Minit.cells rm_Minit.slots (kp_A sz)) (F0 m 0 ls [])
  generalize [Value.ref q].toArray = args at B ⊢
  obtain ⟨hx, hb, hml, hown, hlk, hr, hw, hE, hK, hsz⟩ := id B
  refine lv_aload_n hx hb dX3_init_0 rfl (lv_at hl 0 rfl) ?_
  refine W.objInit hx hb hown (hw _ kw_445 rfl) (hw _ kw_426 rfl) (hw _ kw_427 rfl) rfl (by rw [hml]; exact hl.1) rfl dX3_init_1 (Nat.le_of_ble_eq_true rfl) (Nat.le_of_ble_eq_true rfl) ?_
  refine W.eq (g2 := F0 m 4 ls []) rfl ?_
  refine lv_aload_n hx hb dX3_init_4 rfl (lv_at hl 0 rfl) ?_
  refine lv_iconst (v := 4) hx hb dX3_init_5 (by decide) ?_
  refine va_put (D := D) (ci := 3) (v := .int 4) (ty := .int) (C := RX3) (T := TX3) (N := 12) (ref := RX3) hx hb (Ts := u_ws RX3 TX3 12) (fun w h => hw w (ul_M w h).1 (ul_M w h).2) (fun _ h => h) tyX3 tyX3_ok nmX3 hown hK hP hD hS 0 rfl rfl 1 (by decide) (hw _ kw_245 rfl) (fun _ h9 => h9) rfl (by decide +kernel) rfl rfl (Nat.le_of_ble_eq_true rfl) dX3_init_6 (fun H locs hP hD hS => ?_)
  have hP : va_P D vwCl ((q, .inr (3, [.int 0, .int 4, .int 0, .null, .null, .null, .int 0, .long 0, .long 0, .int 0, .long 0, .long 0])) :: (cw_W G kd_c0 [])) H := hP
  have hD : va_D (kp_A sz) ((q, .inr (3, [.int 0, .int 4, .int 0, .null, .null, .null, .int 0, .long 0, .long 0, .int 0, .long 0, .long 0])) :: (cw_W G kd_c0 [])) := hD
  refine lv_aload_n hx hb dX3_init_9 rfl (lv_at hl 0 rfl) ?_
  refine lv_bipush (v := 10) hx hb dX3_init_10 (by decide) ?_
  refine va_put (D := D) (ci := 3) (v := .int 10) (ty := .int) (C := RX3) (T := TX3) (N := 12) (ref := RX3) hx hb (Ts := u_ws RX3 TX3 12) (fun w h => hw w (ul_M w h).1 (ul_M w h).2) (fun _ h => h) tyX3 tyX3_ok nmX3 hown hK hP hD hS 0 rfl rfl 2 (by decide) (hw _ kw_246 rfl) (fun _ h9 => h9) rfl (by decide +kernel) rfl rfl (Nat.le_of_ble_eq_true rfl) dX3_init_12 (fun H locs hP hD hS => ?_)
  have hP : va_P D vwCl ((q, .inr (3, [.int 0, .int 4, .int 10, .null, .null, .null, .int 0, .long 0, .long 0, .int 0, .long 0, .long 0])) :: (cw_W G kd_c0 [])) H := hP
  have hD : va_D (kp_A sz) ((q, .inr (3, [.int 0, .int 4, .int 10, .null, .null, .null, .int 0, .long 0, .long 0, .int 0, .long 0, .long 0])) :: (cw_W G kd_c0 [])) := hD
  refine lv_aload_n hx hb dX3_init_15 rfl (lv_at hl 0 rfl) ?_
  refine lv_bipush (v := 8) hx hb dX3_init_16 (by decide) ?_
  refine va_newa (atype := .boolean) (ty := .boolean) (a0 := (8, .inl (fun _ => 0))) (N' := 8) hx hb (hw _ kw_446 rfl) rfl hK hP hD hS hA (fun _ => rfl) (by decide) (by decide) (by decide) (by decide) (by decide) dX3_init_18 (fun qb cZ H hK hP hD hS => ?_)
  have hP : va_P D vwCl ((q, .inr (3, [.int 0, .int 4, .int 10, .null, .null, .null, .int 0, .long 0, .long 0, .int 0, .long 0, .long 0])) :: (qb, .inl (cZ, 8, .inl (fun _ => 0))) :: (cw_W G kd_c0 [])) H := hP.sub [0, 14, 1, 2, 3, 4, 5, 6, 7, 8, 9, 10, 11, 12, 13] rfl
  have hD : va_D (kp_A sz) ((q, .inr (3, [.int 0, .int 4, .int 10, .null, .null, .null, .int 0, .long 0, .long 0, .int 0, .long 0, .long 0])) :: (qb, .inl (cZ, 8, .inl (fun _ => 0))) :: (cw_W G kd_c0 [])) := hD.sub [0, 14, 1, 2, 3, 4, 5, 6, 7, 8, 9, 10, 11, 12, 13] (by decide) rfl
  have hK : va_K D vwCl [(aA G, .object RX1), (cZ, .boolean)] s := hK
  refine W.widen (k := 1) (n := 8) (by omega) (by omega) ?_
  refine va_putF (D := D) (ci := 3) (v := .ref qb) (ty := .array .boolean) (C := RX3) (T := TX3) (N := 12) (ref := RX3) hx hb (Ts := u_ws RX3 TX3 12) (fun w h => hw w (ul_M w h).1 (ul_M w h).2) (fun _ h => h) tyX3 tyX3_ok nmX3 hown hK hP hD hS 0 rfl rfl 3 (by decide) (hw _ kw_298 rfl) (fun _ h9 => h9) rfl (hin rfl) rfl (by decide +kernel) rfl rfl (Nat.le_of_ble_eq_true rfl) dX3_init_20 (fun H locs hP hD hS => ?_)
  have hP : va_P D vwCl ((q, .inr (3, [.int 0, .int 4, .int 10, .ref qb, .null, .null, .int 0, .long 0, .long 0, .int 0, .long 0, .long 0])) :: (qb, .inl (cZ, 8, .inl (fun _ => 0))) :: (cw_W G kd_c0 [])) H := hP
  have hD : va_D (kp_A sz) ((q, .inr (3, [.int 0, .int 4, .int 10, .ref qb, .null, .null, .int 0, .long 0, .long 0, .int 0, .long 0, .long 0])) :: (qb, .inl (cZ, 8, .inl (fun _ => 0))) :: (cw_W G kd_c0 [])) := hD
  refine lv_aload_n hx hb dX3_init_23 rfl (lv_at hl 0 rfl) ?_
  refine lv_bipush (v := 8) hx hb dX3_init_24 (by decide) ?_
  refine va_newa (atype := .long) (ty := .long) (a0 := (8, .inr (.inl (fun _ => 0)))) (N' := 8) hx hb (hw _ kw_447 rfl) rfl hK hP hD hS hA (fun _ => rfl) (by decide) (by decide) (by decide) (by decide) (by decide) dX3_init_26 (fun ql cJ H hK hP hD hS => ?_)
  have hP : va_P D vwCl ((q, .inr (3, [.int 0, .int 4, .int 10, .ref qb, .null, .null, .int 0, .long 0, .long 0, .int 0, .long 0, .long 0])) :: (qb, .inl (cZ, 8, .inl (fun _ => 0))) :: (ql, .inl (cJ, 8, .inr (.inl (fun _ => 0)))) :: (cw_W G kd_c0 [])) H := hP.sub [0, 1, 15, 2, 3, 4, 5, 6, 7, 8, 9, 10, 11, 12, 13, 14] rfl
  have hD : va_D (kp_A sz) ((q, .inr (3, [.int 0, .int 4, .int 10, .ref qb, .null, .null, .int 0, .long 0, .long 0, .int 0, .long 0, .long 0])) :: (qb, .inl (cZ, 8, .inl (fun _ => 0))) :: (ql, .inl (cJ, 8, .inr (.inl (fun _ => 0)))) :: (cw_W G kd_c0 [])) := hD.sub [0, 1, 15, 2, 3, 4, 5, 6, 7, 8, 9, 10, 11, 12, 13, 14] (by decide) rfl
  have hK : va_K D vwCl [(aA G, .object RX1), (cZ, .boolean), (cJ, .long)] s := hK
  refine W.widen (k := 2) (n := 16) (by omega) (by omega) ?_
  refine va_putF (D := D) (ci := 3) (v := .ref ql) (ty := .array .long) (C := RX3) (T := TX3) (N := 12) (ref := RX3) hx hb (Ts := u_ws RX3 TX3 12) (fun w h => hw w (ul_M w h).1 (ul_M w h).2) (fun _ h => h) tyX3 tyX3_ok nmX3 hown hK hP hD hS 0 rfl rfl 4 (by decide) (hw _ kw_299 rfl) (fun _ h9 => h9) rfl (hin rfl) rfl (by decide +kernel) rfl rfl (Nat.le_of_ble_eq_true rfl) dX3_init_28 (fun H locs hP hD hS => ?_)
  have hP : va_P D vwCl ((q, .inr (3, [.int 0, .int 4, .int 10, .ref qb, .ref ql, .null, .int 0, .long 0, .long 0, .int 0, .long 0, .long 0])) :: (qb, .inl (cZ, 8, .inl (fun _ => 0))) :: (ql, .inl (cJ, 8, .inr (.inl (fun _ => 0)))) :: (cw_W G kd_c0 [])) H := hP
  have hD : va_D (kp_A sz) ((q, .inr (3, [.int 0, .int 4, .int 10, .ref qb, .ref ql, .null, .int 0, .long 0, .long 0, .int 0, .long 0, .long 0])) :: (qb, .inl (cZ, 8, .inl (fun _ => 0))) :: (ql, .inl (cJ, 8, .inr (.inl (fun _ => 0)))) :: (cw_W G kd_c0 [])) := hD
  refine lv_aload_n hx hb dX3_init_31 rfl (lv_at hl 0 rfl) ?_
  refine lv_bipush (v := 8) hx hb dX3_init_32 (by decide) ?_
  refine va_newa (atype := .long) (ty := .long) (a0 := (8, .inr (.inl (fun _ => 0)))) (N' := 8) hx hb (hw _ kw_447 rfl) rfl hK hP hD hS hA (fun _ => rfl) (by decide) (by decide) (by decide) (by decide) (by decide) dX3_init_34 (fun qh cK H hK hP hD hS => ?_)
  have hP : va_P D vwCl ((q, .inr (3, [.int 0, .int 4, .int 10, .ref qb, .ref ql, .null, .int 0, .long 0, .long 0, .int 0, .long 0, .long 0])) :: (qb, .inl (cZ, 8, .inl (fun _ => 0))) :: (ql, .inl (cJ, 8, .inr (.inl (fun _ => 0)))) :: (qh, .inl (cK, 8, .inr (.inl (fun _ => 0)))) :: (cw_W G kd_c0 [])) H := hP.sub [0, 1, 2, 16, 3, 4, 5, 6, 7, 8, 9, 10, 11, 12, 13, 14, 15] rfl
  have hD : va_D (kp_A sz) ((q, .inr (3, [.int 0, .int 4, .int 10, .ref qb, .ref ql, .null, .int 0, .long 0, .long 0, .int 0, .long 0, .long 0])) :: (qb, .inl (cZ, 8, .inl (fun _ => 0))) :: (ql, .inl (cJ, 8, .inr (.inl (fun _ => 0)))) :: (qh, .inl (cK, 8, .inr (.inl (fun _ => 0)))) :: (cw_W G kd_c0 [])) := hD.sub [0, 1, 2, 16, 3, 4, 5, 6, 7, 8, 9, 10, 11, 12, 13, 14, 15] (by decide) rfl
  have hK : va_K D vwCl [(aA G, .object RX1), (cZ, .boolean), (cJ, .long), (cK, .long)] s := hK
  refine W.widen (k := 3) (n := 24) (by omega) (by omega) ?_
  refine va_putF (D := D) (ci := 3) (v := .ref qh) (ty := .array .long) (C := RX3) (T := TX3) (N := 12) (ref := RX3) hx hb (Ts := u_ws RX3 TX3 12) (fun w h => hw w (ul_M w h).1 (ul_M w h).2) (fun _ h => h) tyX3 tyX3_ok nmX3 hown hK hP hD hS 0 rfl rfl 5 (by decide) (hw _ kw_300 rfl) (fun _ h9 => h9) rfl (hin rfl) rfl (by decide +kernel) rfl rfl (Nat.le_of_ble_eq_true rfl) dX3_init_36 (fun H locs hP hD hS => ?_)
  have hP : va_P D vwCl ((q, .inr (3, [.int 0, .int 4, .int 10, .ref qb, .ref ql, .ref qh, .int 0, .long 0, .long 0, .int 0, .long 0, .long 0])) :: (qb, .inl (cZ, 8, .inl (fun _ => 0))) :: (ql, .inl (cJ, 8, .inr (.inl (fun _ => 0)))) :: (qh, .inl (cK, 8, .inr (.inl (fun _ => 0)))) :: (cw_W G kd_c0 [])) H := hP
  have hD : va_D (kp_A sz) ((q, .inr (3, [.int 0, .int 4, .int 10, .ref qb, .ref ql, .ref qh, .int 0, .long 0, .long 0, .int 0, .long 0, .long 0])) :: (qb, .inl (cZ, 8, .inl (fun _ => 0))) :: (ql, .inl (cJ, 8, .inr (.inl (fun _ => 0)))) :: (qh, .inl (cK, 8, .inr (.inl (fun _ => 0)))) :: (cw_W G kd_c0 [])) := hD
  have ecK : cK = cJ := by
    have a1 := (hK.2 2 _ rfl).2
    have a2 := (hK.2 3 _ rfl).2
    exact Option.some.inj (a2.symm.trans a1)
  subst ecK
  have hK9 : va_K D vwCl [(aA G, .object RX1), (cZ, .boolean), (cK, .long)] s := hK.sub [0, 1, 2] rfl
  have hP9 : va_P D vwCl (mw_W (q, qb, ql, qh, cZ, cK) km_c0 (cw_W G kd_c0 [])) H := hP
  have hD9 : va_D (kp_A sz) (mw_W (q, qb, ql, qh, cZ, cK) km_c0 (cw_W G kd_c0 [])) := hD
  exact W.vret hx hb hr (fun t ht hW => ⟨⟨(q, qb, ql, qh, cZ, cK), rfl, rfl, by rw [ht]; exact hP9, va_K.moved hW.alike hK9, hD9⟩, hS.F ht⟩) hS.2.2 dX3_init_39 hlk
