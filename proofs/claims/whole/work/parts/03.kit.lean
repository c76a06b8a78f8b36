-- MY OWN ROWS OVER THE KIT: one global list of words, worlds as lists, contracts that say the answer and the new world
def kp_nest : Cond → Bool
  | .fieldLinkNest _ _ _ _ _ _ => true
  | .methodLinkNest _ _ _ _ => true
  | .stringRef _ _ _ => true
  | .castable _ _ => true
  | .declares _ => true
  | .arrayOver (.object _) => true
  | _ => false
theorem kp_str {o t : String} {k : Nat} {A A' : Array Value} {u U : State} (hv : U.vm = u.vm) (h : (Cond.stringRef o k t).before A u = true) : (Cond.stringRef o k t).before A' U = true := by
  simp only [Cond.before, Cond.holds, Cond.value, State.names, State.poolOf?, State.resolvedAt?, hv] at h ⊢
  exact h
def kp_w (w : Cond) : Bool := goodWord w || kp_nest w
theorem kp_at {args a' : Array Value} {s U : State} (hW : s.WarmedH U.vm) {w : Cond} (hk : kp_w w = true) (h : w.before args s = true) : w.before a' U = true := by
  by_cases g : goodWord w = true
  · exact word_at hW (good_of_word g) h
  · have hn : kp_nest w = true := by
      unfold kp_w at hk
      rw [Bool.or_eq_true] at hk
      exact hk.resolve_left g
    unfold kp_nest at hn
    split at hn
    · exact va_Nw.use rfl (va_Nw.warmF hW (va_Nw.of rfl h))
    · exact va_Nw.use rfl (va_Nw.warmM hW (va_Nw.of rfl h))
    · exact kp_str (u := s.setVm U.vm) rfl (Cond.stringRef_warmed (args := args) hW h)
    · exact va_Nw.use rfl (va_Nw.warmC hW (va_Nw.of rfl h))
    · exact va_Nw.use rfl (va_Nw.warmD hW (va_Nw.of rfl h))
    · exact va_AO.use (va_AO.moved hW.alike (va_AO.of h))
    · exact absurd hn (by decide)
/-- every lasting word of the tables holds here -/
def kp_E (U : State) : Prop := ∀ w ∈ lw_tbl, kp_w w = true → w.before #[] U = true
theorem kp_E.warm {s U : State} (h : kp_E s) (hW : s.WarmedH U.vm) : kp_E U := fun w hw hk => kp_at hW hk (h w hw hk)
theorem kp_E.use {s : State} {args : Array Value} (h : kp_E s) : ∀ w ∈ lw_tbl, kp_w w = true → w.before args s = true := fun w hw hk => kp_at (State.WarmedH.refl s) hk (h w hw hk)
theorem kp_E.of {s : State} {args : Array Value} (h : ∀ w ∈ lw_tbl, w.before args s = true) : kp_E s := fun w hw hk => kp_at (State.WarmedH.refl s) hk (h w hw)
/-- the start of a contract: words, classes, the cells ws, nothing of ours below sz -/
def kp_P (D : va_G) (ty : List (ClassId × FieldType)) (sz : Nat) (ws : va_W) (U : State) : Prop := kp_E U ∧ va_K D vwCl ty U ∧ va_P D vwCl ws U.heap ∧ sz ≤ U.heap.size
theorem kp_P.blind {D : va_G} {ty : List (ClassId × FieldType)} {sz : Nat} {ws : va_W} {av : List Value} : FrameBlind (va_Pc av (kp_P D ty sz ws)) := by
  intro a U g mk h
  obtain ⟨h0, h1, h2, h3, h4⟩ := h
  exact ⟨h0, h1.warm (U := U.calling g mk a) (State.WarmedH.refl U), va_K.moved (u := U) (U := U.calling g mk a) (Vm.Alike.refl U.vm) h2, h3, h4⟩
theorem kp_P.at {D : va_G} {ty : List (ClassId × FieldType)} {sz : Nat} {ws : va_W} {s : State} {H : Heap} (hE : kp_E s) (hK : va_K D vwCl ty s) (hP : va_P D vwCl ws H) (hz : sz ≤ H.size) {av : List Value} : ∀ U : State, U.heap = H → s.WarmedH U.vm → va_Pc av (kp_P D ty sz ws) av.toArray U :=
  fun U hU hW => ⟨rfl, hE.warm hW, va_K.moved hW.alike hK, by rw [hU]; exact hP, by rw [hU]; exact hz⟩
abbrev kp_A (sz : Nat) : Nat → Prop := fun q => sz ≤ q
/-- the end of a contract: the answer r, the cells ws' -/
def kp_Q (D : va_G) (sz : Nat) (r : Option Value) (ws' : va_W) : Array Value → State → Outcome → State → Prop := fun _ st oc t => oc = .returned r ∧ va_P D vwCl ws' t.heap ∧ va_F (kp_A sz) st t
/-- A CONTRACT: with the arguments av and the cells ws the method y answers r and leaves the cells ws'; nothing below sz is written; mc cells of ms slots are made -/
def kp_M (l : Launch) (y : MethodName) (cc : ByteArray) (nL : Nat) (ret : Option FieldType) (rm : Room) (D : va_G) (ty : List (ClassId × FieldType)) (sz : Nat) (av : List Value) (ws : va_W) (r : Option Value) (ws' : va_W) : Prop :=
  Met l y [Cond.code y cc nL ret] rm (va_Pc av (kp_P D ty sz ws)) (kp_Q D sz r ws') rm.cells rm.slots (kp_A sz)
/-- A CONTRACT OF A READER: it answers r, and the heap is as it was -/
def kp_QR (r : Option Value) : Array Value → State → Outcome → State → Prop := fun _ st oc t => oc = .returned r ∧ t.heap = st.heap
def kp_R (l : Launch) (y : MethodName) (cc : ByteArray) (nL : Nat) (ret : Option FieldType) (rm : Room) (D : va_G) (ty : List (ClassId × FieldType)) (sz : Nat) (av : List Value) (ws : va_W) (r : Option Value) : Prop :=
  Met l y [Cond.code y cc nL ret] rm (va_Pc av (kp_P D ty sz ws)) (kp_QR r) 0 0 (fun _ => False)
/-- what a body knows of itself -/
def kp_B (p : Program) (l : Launch) (s : State) (m : MethodId) (args : Array Value) (meth : Method) (c : Code) (own : String) (cc : ByteArray) (nL : Nat) (ret : Option FieldType) (D : va_G) (ty : List (ClassId × FieldType)) (sz : Nat) : Prop :=
  p.tables.exec = Jvm.exec ∧ c.code = cc ∧ c.maxLocals = nL ∧ s.vm.findClass own = some m.cls ∧ meth.locks = false ∧ meth.sig.returnType = ret ∧ (∀ w ∈ lw_tbl, kp_w w = true → w.before args s = true) ∧ kp_E s ∧ va_K D vwCl ty s ∧ sz ≤ s.heap.size
theorem kp_body {l : Launch} {y : MethodName} {cc : ByteArray} {nL : Nat} {ret : Option FieldType} {rm : Room} {D : va_G} {ty : List (ClassId × FieldType)} {sz : Nat} {av : List Value} {ws : va_W} {r : Option Value} {ws' : va_W}
    (hy : plainName y.cls = true) (hn : (lg_sl av).length ≤ nL) {lv : List (Nat × Value)} (hlv : lv_args 0 av = lv)
    (body : ∀ (p : Program) (e : Env) (s : State) (m : MethodId) (args : Array Value) (below : List Frame) (meth : Method) (c : Code) (ls : Array Slot), kp_B p l s m args meth c y.cls cc nL ret D ty sz → (y.name = "<init>" → meth.name = "<init>") → lv_has ls nL lv → va_P D vwCl ws s.heap → va_S (kp_A sz) s.heap s.heap [] →
      W p l e rm s m args below meth c s.heap [] 0 0 (MQ below (kp_Q D sz r ws') args s rm.cells rm.slots (kp_A sz)) (F0 m 0 ls [])) :
    kp_M l y cc nL ret rm D ty sz av ws r ws' := by
  refine Met.ofW (cc := cc) (maxL := nL) (ret := ret) hy rfl ?_
  intro p e s m args below meth c s₁ B hml hv
  obtain ⟨rfl, hE, hK, hP, hz⟩ := hv
  have hl := lv_entry av (n := nL) hn
  rw [lg_entry_eq]
  generalize (lg_sl av ++ List.replicate (nL - (lg_sl av).length) Slot.unset).toArray = ls at hl ⊢
  rw [hlv] at hl
  exact body p e s m av.toArray below meth c ls ⟨B.exec, B.bytes, hml, findClass_of_methodNamed B.named, B.notSynchronized, B.returns, hE.use, hE, hK, hz⟩ (fun h => (name_of_methodNamed B.named B.method).1.trans h) hl hP va_S.rf
def z_min (x y : Int64) : Int64 := if y < x then y else x
def z_max (x y : Int64) : Int64 := if y < x then x else y
theorem kp_bodyR {l : Launch} {y : MethodName} {cc : ByteArray} {nL : Nat} {ret : Option FieldType} {rm : Room} {D : va_G} {ty : List (ClassId × FieldType)} {sz : Nat} {av : List Value} {ws : va_W} {r : Option Value}
    (hy : plainName y.cls = true) (hn : (lg_sl av).length ≤ nL) {lv : List (Nat × Value)} (hlv : lv_args 0 av = lv)
    (body : ∀ (p : Program) (e : Env) (s : State) (m : MethodId) (args : Array Value) (below : List Frame) (meth : Method) (c : Code) (ls : Array Slot), kp_B p l s m args meth c y.cls cc nL ret D ty sz → lv_has ls nL lv → va_P D vwCl ws s.heap → va_S (kp_A sz) s.heap s.heap [] →
      W p l e rm s m args below meth c s.heap [] 0 0 (MQ below (kp_QR r) args s 0 0 (fun _ => False)) (F0 m 0 ls [])) :
    kp_R l y cc nL ret rm D ty sz av ws r := by
  refine Met.ofW (cc := cc) (maxL := nL) (ret := ret) hy rfl ?_
  intro p e s m args below meth c s₁ B hml hv
  obtain ⟨rfl, hE, hK, hP, hz⟩ := hv
  have hl := lv_entry av (n := nL) hn
  rw [lg_entry_eq]
  generalize (lg_sl av ++ List.replicate (nL - (lg_sl av).length) Slot.unset).toArray = ls at hl ⊢
  rw [hlv] at hl
  exact body p e s m av.toArray below meth c ls ⟨B.exec, B.bytes, hml, findClass_of_methodNamed B.named, B.notSynchronized, B.returns, hE.use, hE, hK, hz⟩ hl hP va_S.rf
theorem kp_bodyRF {l : Launch} {y : MethodName} {cc : ByteArray} {nL : Nat} {ret : Option FieldType} {rm : Room} {D : va_G} {ty : List (ClassId × FieldType)} {sz : Nat} {av : List Value} {ws : va_W} {r : Option Value}
    (hy : plainFor y = true) (hn : (lg_sl av).length ≤ nL) {lv : List (Nat × Value)} (hlv : lv_args 0 av = lv)
    (body : ∀ (p : Program) (e : Env) (s : State) (m : MethodId) (args : Array Value) (below : List Frame) (meth : Method) (c : Code) (ls : Array Slot), kp_B p l s m args meth c y.cls cc nL ret D ty sz → lv_has ls nL lv → va_P D vwCl ws s.heap → va_S (kp_A sz) s.heap s.heap [] →
      W p l e rm s m args below meth c s.heap [] 0 0 (MQ below (kp_QR r) args s 0 0 (fun _ => False)) (F0 m 0 ls [])) :
    kp_R l y cc nL ret rm D ty sz av ws r := by
  refine va_MetF (cc := cc) (maxL := nL) (ret := ret) hy rfl ?_
  intro p e s m args below meth c s₁ B hml hv
  obtain ⟨rfl, hE, hK, hP, hz⟩ := hv
  have hl := lv_entry av (n := nL) hn
  rw [lg_entry_eq]
  generalize (lg_sl av ++ List.replicate (nL - (lg_sl av).length) Slot.unset).toArray = ls at hl ⊢
  rw [hlv] at hl
  exact body p e s m av.toArray below meth c ls ⟨B.exec, B.bytes, hml, findClass_of_methodNamed B.named, B.notSynchronized, B.returns, hE.use, hE, hK, hz⟩ hl hP va_S.rf
section KPR
variable {p : Program} {l : Launch} {e : Env} {R : Room} {s : State} {m : MethodId} {args : Array Value} {below : List Frame} {meth : Method} {c : Code} {H : Heap} {locs : List Loc} {cells slots : Nat} {Q : State → Prop}
variable {own : String} {cc : ByteArray} {nL : Nat} {ret : Option FieldType} {D : va_G} {ty : List (ClassId × FieldType)} {sz pc : Nat} {ls : Array Slot} {rest : List Value} {ws ws' : va_W} {r : Option Value}
theorem kp_hz (B : kp_B p l s m args meth c own cc nL ret D ty sz) (hS : va_S (kp_A sz) s.heap H locs) : sz ≤ H.size := Nat.le_trans B.2.2.2.2.2.2.2.2.2 hS.1
-- ends
theorem kp_reti {v : Int32} (B : kp_B p l s m args meth c own cc nL (some .int) D ty sz) (hP : va_P D vwCl ws' H) (hS : va_S (kp_A sz) s.heap H locs) (hv : r = some (.int v)) (hdg : decode cc pc = .ok (.ireturn, 1)) :
    W p l e R s m args below meth c H locs cells slots (MQ below (kp_Q D sz r ws') args s cells slots (kp_A sz)) (F0 m pc ls [.int v]) := by
  obtain ⟨hx, hb, hml, ho, hlk, hr, hw, hE, hK, hz⟩ := B
  exact W.iret (v := v) hx hb hr (fun t ht hW => ⟨by rw [hv], by rw [ht]; exact hP, hS.F ht⟩) hS.2.2 hdg hlk
theorem kp_retz {v : Int32} (B : kp_B p l s m args meth c own cc nL (some .boolean) D ty sz) (hP : va_P D vwCl ws' H) (hS : va_S (kp_A sz) s.heap H locs) (hv : r = some (.int v)) (h01 : v = 0 ∨ v = 1) (hdg : decode cc pc = .ok (.ireturn, 1)) :
    W p l e R s m args below meth c H locs cells slots (MQ below (kp_Q D sz r ws') args s cells slots (kp_A sz)) (F0 m pc ls [.int v]) := by
  obtain ⟨hx, hb, hml, ho, hlk, hr, hw, hE, hK, hz⟩ := B
  exact W.zret (v := v) hx hb hr (by rcases h01 with h | h <;> subst h <;> rfl) (fun t ht hW => ⟨by rw [hv], by rw [ht]; exact hP, hS.F ht⟩) hS.2.2 hdg hlk
theorem kp_retl {v : Int64} (B : kp_B p l s m args meth c own cc nL (some .long) D ty sz) (hP : va_P D vwCl ws' H) (hS : va_S (kp_A sz) s.heap H locs) (hv : r = some (.long v)) (hdg : decode cc pc = .ok (.lreturn, 1)) :
    W p l e R s m args below meth c H locs cells slots (MQ below (kp_Q D sz r ws') args s cells slots (kp_A sz)) (F0 m pc ls [.long v]) := by
  obtain ⟨hx, hb, hml, ho, hlk, hr, hw, hE, hK, hz⟩ := B
  exact W.lret (v := v) hx hb hr (fun t ht hW => ⟨by rw [hv], by rw [ht]; exact hP, hS.F ht⟩) hS.2.2 hdg hlk
theorem kp_retv (B : kp_B p l s m args meth c own cc nL none D ty sz) (hP : va_P D vwCl ws' H) (hS : va_S (kp_A sz) s.heap H locs) (hv : r = none) (hdg : decode cc pc = .ok (.return_, 1)) :
    W p l e R s m args below meth c H locs cells slots (MQ below (kp_Q D sz r ws') args s cells slots (kp_A sz)) (F0 m pc ls []) := by
  obtain ⟨hx, hb, hml, ho, hlk, hr, hw, hE, hK, hz⟩ := B
  exact W.vret hx hb hr (fun t ht hW => ⟨by rw [hv], by rw [ht]; exact hP, hS.F ht⟩) hS.2.2 hdg hlk
theorem kp_retiR {v : Int32} (B : kp_B p l s m args meth c own cc nL (some .int) D ty sz) (hv : r = some (.int v)) (hdg : decode cc pc = .ok (.ireturn, 1)) :
    W p l e R s m args below meth c s.heap [] cells slots (MQ below (kp_QR r) args s cells slots (fun _ => False)) (F0 m pc ls [.int v]) := by
  obtain ⟨hx, hb, hml, ho, hlk, hr, hw, hE, hK, hz⟩ := B
  exact W.iret (v := v) hx hb hr (fun t ht hW => ⟨by rw [hv], ht⟩) (fun _ h => nomatch h) hdg hlk
theorem kp_retzR {v : Int32} (B : kp_B p l s m args meth c own cc nL (some .boolean) D ty sz) (hv : r = some (.int v)) (h01 : v = 0 ∨ v = 1) (hdg : decode cc pc = .ok (.ireturn, 1)) :
    W p l e R s m args below meth c s.heap [] cells slots (MQ below (kp_QR r) args s cells slots (fun _ => False)) (F0 m pc ls [.int v]) := by
  obtain ⟨hx, hb, hml, ho, hlk, hr, hw, hE, hK, hz⟩ := B
  exact W.zret (v := v) hx hb hr (by rcases h01 with h | h <;> subst h <;> rfl) (fun t ht hW => ⟨by rw [hv], ht⟩) (fun _ h => nomatch h) hdg hlk
theorem kp_retlR {v : Int64} (B : kp_B p l s m args meth c own cc nL (some .long) D ty sz) (hv : r = some (.long v)) (hdg : decode cc pc = .ok (.lreturn, 1)) :
    W p l e R s m args below meth c s.heap [] cells slots (MQ below (kp_QR r) args s cells slots (fun _ => False)) (F0 m pc ls [.long v]) := by
  obtain ⟨hx, hb, hml, ho, hlk, hr, hw, hE, hK, hz⟩ := B
  exact W.lret (v := v) hx hb hr (fun t ht hW => ⟨by rw [hv], ht⟩) (fun _ h => nomatch h) hdg hlk
-- comparisons of longs: lcmp and the branch behind it
theorem kp_llt (hx : p.tables.exec = Jvm.exec) (hb : c.code = cc) {x y : Int64} {off : Int} {tgt : Nat} (d1 : decode cc pc = .ok (.lcmp, 1)) (d2 : decode cc (pc + 1) = .ok (.ifCond .lt off, 3)) (ht : ((pc + 1 : Nat) : Int) + off = (tgt : Int))
    (kt : x < y → W p l e R s m args below meth c H locs cells slots Q (F0 m tgt ls rest)) (kf : ¬ x < y → W p l e R s m args below meth c H locs cells slots Q (F0 m (pc + 4) ls rest)) : W p l e R s m args below meth c H locs cells slots Q (F0 m pc ls (.long y :: .long x :: rest)) := by
  refine W.lcmp hx hb d1 ?_
  refine lv_if_lt (tgt := tgt) hx hb d2 ht (fun h => kt ?_) (fun h => kf ?_)
  · rcases Int64.lt_or_le x y with q | q
    · exact q
    · exact absurd ((lg_cmp_ge x y).mpr q) (Int32.not_le.mpr h)
  · intro q
    exact h (Int32.not_le.mp (fun z => Int64.not_le.mpr q ((lg_cmp_ge x y).mp z)))
theorem kp_lge (hx : p.tables.exec = Jvm.exec) (hb : c.code = cc) {x y : Int64} {off : Int} {tgt : Nat} (d1 : decode cc pc = .ok (.lcmp, 1)) (d2 : decode cc (pc + 1) = .ok (.ifCond .ge off, 3)) (ht : ((pc + 1 : Nat) : Int) + off = (tgt : Int))
    (kt : y ≤ x → W p l e R s m args below meth c H locs cells slots Q (F0 m tgt ls rest)) (kf : ¬ y ≤ x → W p l e R s m args below meth c H locs cells slots Q (F0 m (pc + 4) ls rest)) : W p l e R s m args below meth c H locs cells slots Q (F0 m pc ls (.long y :: .long x :: rest)) := by
  refine W.lcmp hx hb d1 ?_
  exact lv_if_ge (tgt := tgt) hx hb d2 ht (fun h => kt ((lg_cmp_ge x y).mp h)) (fun h => kf (fun q => h ((lg_cmp_ge x y).mpr q)))
theorem kp_lle (hx : p.tables.exec = Jvm.exec) (hb : c.code = cc) {x y : Int64} {off : Int} {tgt : Nat} (d1 : decode cc pc = .ok (.lcmp, 1)) (d2 : decode cc (pc + 1) = .ok (.ifCond .le off, 3)) (ht : ((pc + 1 : Nat) : Int) + off = (tgt : Int))
    (kt : x ≤ y → W p l e R s m args below meth c H locs cells slots Q (F0 m tgt ls rest)) (kf : ¬ x ≤ y → W p l e R s m args below meth c H locs cells slots Q (F0 m (pc + 4) ls rest)) : W p l e R s m args below meth c H locs cells slots Q (F0 m pc ls (.long y :: .long x :: rest)) := by
  refine W.lcmp hx hb d1 ?_
  exact lv_if_le (tgt := tgt) hx hb d2 ht (fun h => kt ((lg_cmp_le x y).mp h)) (fun h => kf (fun q => h ((lg_cmp_le x y).mpr q)))
theorem kp_lgt (hx : p.tables.exec = Jvm.exec) (hb : c.code = cc) {x y : Int64} {off : Int} {tgt : Nat} (d1 : decode cc pc = .ok (.lcmp, 1)) (d2 : decode cc (pc + 1) = .ok (.ifCond .gt off, 3)) (ht : ((pc + 1 : Nat) : Int) + off = (tgt : Int))
    (kt : y < x → W p l e R s m args below meth c H locs cells slots Q (F0 m tgt ls rest)) (kf : ¬ y < x → W p l e R s m args below meth c H locs cells slots Q (F0 m (pc + 4) ls rest)) : W p l e R s m args below meth c H locs cells slots Q (F0 m pc ls (.long y :: .long x :: rest)) := by
  refine W.lcmp hx hb d1 ?_
  refine lv_if_gt (tgt := tgt) hx hb d2 ht (fun h => kt ?_) (fun h => kf ?_)
  · rcases Int64.lt_or_le y x with q | q
    · exact q
    · exact absurd ((lg_cmp_le x y).mpr q) (Int32.not_le.mpr h)
  · intro q
    exact h (Int32.not_le.mp (fun z => Int64.not_le.mpr q ((lg_cmp_le x y).mp z)))
theorem kp_cmp0 (x y : Int64) : lg_cmp x y = 0 ↔ x = y := by
  constructor
  · intro h
    have h1 := (lg_cmp_ge x y).mp (by rw [h]; decide)
    have h2 := (lg_cmp_le x y).mp (by rw [h]; decide)
    exact Int64.le_antisymm h2 h1
  · intro h
    subst h
    simp [lg_cmp]
theorem kp_leq (hx : p.tables.exec = Jvm.exec) (hb : c.code = cc) {x y : Int64} {off : Int} {tgt : Nat} (d1 : decode cc pc = .ok (.lcmp, 1)) (d2 : decode cc (pc + 1) = .ok (.ifCond .eq off, 3)) (ht : ((pc + 1 : Nat) : Int) + off = (tgt : Int))
    (kt : x = y → W p l e R s m args below meth c H locs cells slots Q (F0 m tgt ls rest)) (kf : ¬ x = y → W p l e R s m args below meth c H locs cells slots Q (F0 m (pc + 4) ls rest)) : W p l e R s m args below meth c H locs cells slots Q (F0 m pc ls (.long y :: .long x :: rest)) := by
  refine W.lcmp hx hb d1 ?_
  exact lv_if_eq (tgt := tgt) hx hb d2 ht (fun h => kt ((kp_cmp0 x y).mp h)) (fun h => kf (fun q => h ((kp_cmp0 x y).mpr q)))
theorem kp_lne (hx : p.tables.exec = Jvm.exec) (hb : c.code = cc) {x y : Int64} {off : Int} {tgt : Nat} (d1 : decode cc pc = .ok (.lcmp, 1)) (d2 : decode cc (pc + 1) = .ok (.ifCond .ne off, 3)) (ht : ((pc + 1 : Nat) : Int) + off = (tgt : Int))
    (kt : ¬ x = y → W p l e R s m args below meth c H locs cells slots Q (F0 m tgt ls rest)) (kf : x = y → W p l e R s m args below meth c H locs cells slots Q (F0 m (pc + 4) ls rest)) : W p l e R s m args below meth c H locs cells slots Q (F0 m pc ls (.long y :: .long x :: rest)) := by
  refine W.lcmp hx hb d1 ?_
  exact lv_if_ne (tgt := tgt) hx hb d2 ht (fun h => kt (fun q => h ((kp_cmp0 x y).mpr q))) (fun h => kf ((kp_cmp0 x y).mp h))
theorem kp_jI {a b : Int32} (h : a = b) (k : W p l e R s m args below meth c H locs cells slots Q (F0 m pc ls (.int b :: rest))) : W p l e R s m args below meth c H locs cells slots Q (F0 m pc ls (.int a :: rest)) := h ▸ k
theorem kp_jJ {a b : Int64} (h : a = b) (k : W p l e R s m args below meth c H locs cells slots Q (F0 m pc ls (.long b :: rest))) : W p l e R s m args below meth c H locs cells slots Q (F0 m pc ls (.long a :: rest)) := h ▸ k
theorem kp_jl {nL : Nat} {lv lv' : List (Nat × Value)} (h : lv_has ls nL lv) (e : lv = lv') : lv_has ls nL lv' := e ▸ h
-- calls
variable {y : MethodName} {bytes : ByteArray} {maxL index : Nat} {rt : Option FieldType} {rm : Room} {b : Addr} {As st0 : List Value} {host : String}
/-- what the tables say of a call's target -/
def kp_T (y : MethodName) (bytes : ByteArray) (maxL : Nat) (rt : Option FieldType) (n : Nat) : Prop := Cond.code y bytes maxL rt ∈ lw_tbl ∧ Cond.initialized y.cls ∈ lw_tbl ∧ (y.cls ≠ "java/lang/invoke/MethodHandle" ∧ y.cls ≠ "java/lang/invoke/VarHandle") ∧ (parseMethodDescriptor y.desc).map (fun d => d.parameters.length) = some n
theorem kp_go (hr : va_Run p l e R s m args below meth c H locs cells slots rm.cells rm.slots (F0 m pc ls st0) rest (kp_Q D sz r ws' As.toArray) (kp_A sz)) (hS : va_S (kp_A sz) s.heap H locs)
    (kk : ∀ (H1 : Heap) (locs1 : List Loc), va_P D vwCl ws' H1 → va_S (kp_A sz) s.heap H1 locs1 → W p l e R s m args below meth c H1 locs1 (cells + rm.cells) (slots + rm.slots) Q (F0 m (pc + 3) ls (r.toList ++ rest))) : W p l e R s m args below meth c H locs cells slots Q (F0 m pc ls st0) := by
  intro T hT X
  obtain ⟨v, st₀, t, T', L, h0, X', hL, e1, e2, ⟨hv, hp, hz, hk⟩, st⟩ := hr T hT X
  cases hv
  rw [h0] at hz hk
  obtain ⟨t2, a1, b1⟩ := kk T'.heap (locs ++ L) (by rw [e1]; exact hp)
    ⟨Nat.le_trans hS.1 (by rw [e1]; exact hz), fun q h1 h2 => by rw [e1, hk q (Nat.lt_of_lt_of_le h1 hS.1) h2]; exact hS.2.1 q h1 h2, fun q hq => by
      rcases List.mem_append.mp hq with h | h
      · exact hS.2.2 q h
      · exact hL q h⟩ T' rfl X'
  exact ⟨t2, st t2 a1, b1⟩
theorem kp_code1 (hw : ∀ w ∈ lw_tbl, kp_w w = true → w.before args s = true) (h : Cond.code y bytes maxL rt ∈ lw_tbl) : ∀ w ∈ [Cond.code y bytes maxL rt], ∀ (a' : Array Value) (U : State), s.WarmedH U.vm → w.before a' U = true := by
  intro w hm a' U hW
  rw [List.mem_singleton.mp hm]
  exact kp_at hW rfl (hw _ h rfl)
theorem kp_goR (hr : va_Run p l e R s m args below meth c H locs cells slots 0 0 (F0 m pc ls st0) rest (kp_QR r As.toArray) (fun _ => False))
    (kk : W p l e R s m args below meth c H locs cells slots Q (F0 m (pc + 3) ls (r.toList ++ rest))) : W p l e R s m args below meth c H locs cells slots Q (F0 m pc ls st0) := by
  intro T hT X
  obtain ⟨v, st₀, t, T', L, h0, X', hL, e1, e2, ⟨hv, hh⟩, st⟩ := hr T hT X
  cases hv
  have hn : L = [] := by
    cases L with
    | nil => rfl
    | cons a L => exact absurd (hL a List.mem_cons_self) (fun h => h)
  subst hn
  rw [List.append_nil] at X'
  obtain ⟨t2, a1, b1⟩ := kk T' (by rw [e1, hh, h0]) X'
  exact ⟨t2, st t2 a1, b1⟩
/-- a virtual call of a method of its own class -/
theorem kp_callV (B : kp_B p l s m args meth c own cc nL ret D ty sz) (hM : kp_M l y bytes maxL rt rm D ty sz (.ref b :: As) ws r ws') (hT : kp_T y bytes maxL rt As.length)
    (hl : Cond.methodLink own index y ∈ lw_tbl) (hi : Cond.instanceMethod y ∈ lw_tbl) (hs : Cond.selects y.cls y y ∈ lw_tbl) (hrc : ∃ cell : Cell, H[b]? = some cell ∧ cell.vm.isStatics = false ∧ s.vm.findClass y.cls = some cell.cls)
    (hR : rm.frames + 1 ≤ R.frames ∧ 8 + (maxL + 11) + rm.locals ≤ R.locals) {cells1 slots1 : Nat} (hc1 : cells + rm.cells = cells1) (hs1 : slots + rm.slots = slots1) (hC : cells1 ≤ R.cells ∧ slots1 ≤ R.slots) (hst : st0 = As.reverse ++ .ref b :: rest) (hrt : (rest.map fun v => v.category).sum ≤ 8) (hls : ls.size = nL)
    (hP : va_P D vwCl ws H) (hS : va_S (kp_A sz) s.heap H locs) (hdg : decode cc pc = .ok (.invokevirtual index, 3))
    {st1 : List Value} (hst1 : r.toList ++ rest = st1) (kk : ∀ (H1 : Heap) (locs1 : List Loc), va_P D vwCl ws' H1 → va_S (kp_A sz) s.heap H1 locs1 → W p l e R s m args below meth c H1 locs1 cells1 slots1 Q (F0 m (pc + 3) ls st1)) : W p l e R s m args below meth c H locs cells slots Q (F0 m pc ls st0) := by
  subst hst1; subst hc1; subst hs1
  have hz := kp_hz B hS
  obtain ⟨hx, hb, hml, ho, hlk, hr, hw, hE, hK, -⟩ := B
  obtain ⟨t1, t2, t3, t4⟩ := hT
  exact kp_go (rm := rm) (As := .ref b :: As) (va_runV (Ts := []) (C := y.cls) (bytes := bytes) (maxL := maxL) (ret := rt) (n := As.length) (As := As) (rest := rest) (b := b) ⟨hx, hb, hml, ho, fun _ h => nomatch h⟩ hM
    ⟨⟨rfl, rfl, hR.1, hR.2, kp_code1 hw t1, List.mem_singleton.mpr rfl, hw _ t1 rfl, hw _ t2 rfl, t3, fun sig h => by rw [h] at t4; exact (Option.some.inj t4).symm, hw _ hl rfl⟩, hw _ hi rfl, hw _ hs rfl⟩
    ⟨kp_P.blind, hrc, kp_P.at hE hK hP hz⟩ rfl rfl hls hst (lv_room hrt) hdg hC) hS kk
/-- a virtual call of a private method of a nest mate -/
theorem kp_callN (B : kp_B p l s m args meth c own cc nL ret D ty sz) (hM : kp_M l y bytes maxL rt rm D ty sz (.ref b :: As) ws r ws') (hT : kp_T y bytes maxL rt As.length)
    (hl : Cond.methodLinkNest own index y host ∈ lw_tbl) (hi : Cond.instanceMethod y ∈ lw_tbl) (hs : Cond.selects y.cls y y ∈ lw_tbl) (hrc : ∃ cell : Cell, H[b]? = some cell ∧ cell.vm.isStatics = false ∧ s.vm.findClass y.cls = some cell.cls)
    (hR : rm.frames + 1 ≤ R.frames ∧ 8 + (maxL + 11) + rm.locals ≤ R.locals) {cells1 slots1 : Nat} (hc1 : cells + rm.cells = cells1) (hs1 : slots + rm.slots = slots1) (hC : cells1 ≤ R.cells ∧ slots1 ≤ R.slots) (hst : st0 = As.reverse ++ .ref b :: rest) (hrt : (rest.map fun v => v.category).sum ≤ 8) (hls : ls.size = nL)
    (hP : va_P D vwCl ws H) (hS : va_S (kp_A sz) s.heap H locs) (hdg : decode cc pc = .ok (.invokevirtual index, 3))
    {st1 : List Value} (hst1 : r.toList ++ rest = st1) (kk : ∀ (H1 : Heap) (locs1 : List Loc), va_P D vwCl ws' H1 → va_S (kp_A sz) s.heap H1 locs1 → W p l e R s m args below meth c H1 locs1 cells1 slots1 Q (F0 m (pc + 3) ls st1)) : W p l e R s m args below meth c H locs cells slots Q (F0 m pc ls st0) := by
  subst hst1; subst hc1; subst hs1
  have hz := kp_hz B hS
  obtain ⟨hx, hb, hml, ho, hlk, hr, hw, hE, hK, -⟩ := B
  obtain ⟨t1, t2, t3, t4⟩ := hT
  exact kp_go (rm := rm) (As := .ref b :: As) (va_runVN (Ts := []) (C := y.cls) (bytes := bytes) (maxL := maxL) (ret := rt) (n := As.length) (As := As) (rest := rest) (b := b) (host := host) ⟨hx, hb, hml, ho, fun _ h => nomatch h⟩ hM
    ⟨⟨⟨rfl, rfl, hR.1, hR.2, kp_code1 hw t1, List.mem_singleton.mpr rfl⟩, hw _ t1 rfl, hw _ t2 rfl, t3, fun sig h => by rw [h] at t4; exact (Option.some.inj t4).symm, hw _ hl rfl⟩, hw _ hi rfl, hw _ hs rfl⟩
    ⟨kp_P.blind, hrc, kp_P.at hE hK hP hz⟩ rfl rfl hls hst (lv_room hrt) hdg hC) hS kk
/-- a static call of a method of its own class -/
theorem kp_callS (B : kp_B p l s m args meth c own cc nL ret D ty sz) (hM : kp_M l y bytes maxL rt rm D ty sz As ws r ws') (hT : kp_T y bytes maxL rt As.length)
    (hl : Cond.methodLink own index y ∈ lw_tbl) (hi : Cond.static y ∈ lw_tbl)
    (hR : rm.frames + 1 ≤ R.frames ∧ 8 + (maxL + 11) + rm.locals ≤ R.locals) {cells1 slots1 : Nat} (hc1 : cells + rm.cells = cells1) (hs1 : slots + rm.slots = slots1) (hC : cells1 ≤ R.cells ∧ slots1 ≤ R.slots) (hst : st0 = As.reverse ++ rest) (hrt : (rest.map fun v => v.category).sum ≤ 8) (hls : ls.size = nL)
    (hP : va_P D vwCl ws H) (hS : va_S (kp_A sz) s.heap H locs) (hdg : decode cc pc = .ok (.invokestatic index, 3))
    {st1 : List Value} (hst1 : r.toList ++ rest = st1) (kk : ∀ (H1 : Heap) (locs1 : List Loc), va_P D vwCl ws' H1 → va_S (kp_A sz) s.heap H1 locs1 → W p l e R s m args below meth c H1 locs1 cells1 slots1 Q (F0 m (pc + 3) ls st1)) : W p l e R s m args below meth c H locs cells slots Q (F0 m pc ls st0) := by
  subst hst1; subst hc1; subst hs1
  have hz := kp_hz B hS
  obtain ⟨hx, hb, hml, ho, hlk, hr, hw, hE, hK, -⟩ := B
  obtain ⟨t1, t2, t3, t4⟩ := hT
  exact kp_go (rm := rm) (As := As) (va_runS (Ts := []) (bytes := bytes) (maxL := maxL) (ret := rt) (n := As.length) (As := As) (rest := rest) ⟨hx, hb, hml, ho, fun _ h => nomatch h⟩ hM
    ⟨⟨rfl, rfl, hR.1, hR.2, kp_code1 hw t1, List.mem_singleton.mpr rfl, hw _ t1 rfl, hw _ t2 rfl, t3, fun sig h => by rw [h] at t4; exact (Option.some.inj t4).symm, hw _ hl rfl⟩, hw _ hi rfl⟩
    ⟨kp_P.blind, kp_P.at hE hK hP hz⟩ rfl rfl hls hst (lv_room hrt) hdg hC) hS kk
/-- of a reader: a virtual call of a method of its own class -/
theorem kp_callVR (B : kp_B p l s m args meth c own cc nL ret D ty sz) (hM : kp_R l y bytes maxL rt rm D ty sz (.ref b :: As) ws r) (hT : kp_T y bytes maxL rt As.length)
    (hl : Cond.methodLink own index y ∈ lw_tbl) (hi : Cond.instanceMethod y ∈ lw_tbl) (hs : Cond.selects y.cls y y ∈ lw_tbl) (hrc : ∃ cell : Cell, H[b]? = some cell ∧ cell.vm.isStatics = false ∧ s.vm.findClass y.cls = some cell.cls)
    (hR : rm.frames + 1 ≤ R.frames ∧ 8 + (maxL + 11) + rm.locals ≤ R.locals) (h0 : rm.cells = 0 ∧ rm.slots = 0) (hC : cells ≤ R.cells ∧ slots ≤ R.slots) (hst : st0 = As.reverse ++ .ref b :: rest) (hrt : (rest.map fun v => v.category).sum ≤ 8) (hls : ls.size = nL)
    (hP : va_P D vwCl ws H) (hS : va_S (kp_A sz) s.heap H locs) (hdg : decode cc pc = .ok (.invokevirtual index, 3))
    {st1 : List Value} (hst1 : r.toList ++ rest = st1) (kk : W p l e R s m args below meth c H locs cells slots Q (F0 m (pc + 3) ls st1)) : W p l e R s m args below meth c H locs cells slots Q (F0 m pc ls st0) := by
  subst hst1
  have hz := kp_hz B hS
  obtain ⟨hx, hb, hml, ho, hlk, hr, hw, hE, hK, -⟩ := B
  obtain ⟨t1, t2, t3, t4⟩ := hT
  exact kp_goR (As := .ref b :: As) (va_runV (Ts := []) (C := y.cls) (bytes := bytes) (maxL := maxL) (ret := rt) (n := As.length) (As := As) (rest := rest) (b := b) ⟨hx, hb, hml, ho, fun _ h => nomatch h⟩ hM
    ⟨⟨h0.1, h0.2, hR.1, hR.2, kp_code1 hw t1, List.mem_singleton.mpr rfl, hw _ t1 rfl, hw _ t2 rfl, t3, fun sig h => by rw [h] at t4; exact (Option.some.inj t4).symm, hw _ hl rfl⟩, hw _ hi rfl, hw _ hs rfl⟩
    ⟨kp_P.blind, hrc, kp_P.at hE hK hP hz⟩ rfl rfl hls hst (lv_room hrt) hdg hC) kk
/-- of a reader: a virtual call of a private method of a nest mate -/
theorem kp_callNR (B : kp_B p l s m args meth c own cc nL ret D ty sz) (hM : kp_R l y bytes maxL rt rm D ty sz (.ref b :: As) ws r) (hT : kp_T y bytes maxL rt As.length)
    (hl : Cond.methodLinkNest own index y host ∈ lw_tbl) (hi : Cond.instanceMethod y ∈ lw_tbl) (hs : Cond.selects y.cls y y ∈ lw_tbl) (hrc : ∃ cell : Cell, H[b]? = some cell ∧ cell.vm.isStatics = false ∧ s.vm.findClass y.cls = some cell.cls)
    (hR : rm.frames + 1 ≤ R.frames ∧ 8 + (maxL + 11) + rm.locals ≤ R.locals) (h0 : rm.cells = 0 ∧ rm.slots = 0) (hC : cells ≤ R.cells ∧ slots ≤ R.slots) (hst : st0 = As.reverse ++ .ref b :: rest) (hrt : (rest.map fun v => v.category).sum ≤ 8) (hls : ls.size = nL)
    (hP : va_P D vwCl ws H) (hS : va_S (kp_A sz) s.heap H locs) (hdg : decode cc pc = .ok (.invokevirtual index, 3))
    {st1 : List Value} (hst1 : r.toList ++ rest = st1) (kk : W p l e R s m args below meth c H locs cells slots Q (F0 m (pc + 3) ls st1)) : W p l e R s m args below meth c H locs cells slots Q (F0 m pc ls st0) := by
  subst hst1
  have hz := kp_hz B hS
  obtain ⟨hx, hb, hml, ho, hlk, hr, hw, hE, hK, -⟩ := B
  obtain ⟨t1, t2, t3, t4⟩ := hT
  exact kp_goR (As := .ref b :: As) (va_runVN (Ts := []) (C := y.cls) (bytes := bytes) (maxL := maxL) (ret := rt) (n := As.length) (As := As) (rest := rest) (b := b) (host := host) ⟨hx, hb, hml, ho, fun _ h => nomatch h⟩ hM
    ⟨⟨⟨h0.1, h0.2, hR.1, hR.2, kp_code1 hw t1, List.mem_singleton.mpr rfl⟩, hw _ t1 rfl, hw _ t2 rfl, t3, fun sig h => by rw [h] at t4; exact (Option.some.inj t4).symm, hw _ hl rfl⟩, hw _ hi rfl, hw _ hs rfl⟩
    ⟨kp_P.blind, hrc, kp_P.at hE hK hP hz⟩ rfl rfl hls hst (lv_room hrt) hdg hC) kk
/-- of a reader: a static call of a method of its own class -/
theorem kp_callSR (B : kp_B p l s m args meth c own cc nL ret D ty sz) (hM : kp_R l y bytes maxL rt rm D ty sz As ws r) (hT : kp_T y bytes maxL rt As.length)
    (hl : Cond.methodLink own index y ∈ lw_tbl) (hi : Cond.static y ∈ lw_tbl)
    (hR : rm.frames + 1 ≤ R.frames ∧ 8 + (maxL + 11) + rm.locals ≤ R.locals) (h0 : rm.cells = 0 ∧ rm.slots = 0) (hC : cells ≤ R.cells ∧ slots ≤ R.slots) (hst : st0 = As.reverse ++ rest) (hrt : (rest.map fun v => v.category).sum ≤ 8) (hls : ls.size = nL)
    (hP : va_P D vwCl ws H) (hS : va_S (kp_A sz) s.heap H locs) (hdg : decode cc pc = .ok (.invokestatic index, 3))
    {st1 : List Value} (hst1 : r.toList ++ rest = st1) (kk : W p l e R s m args below meth c H locs cells slots Q (F0 m (pc + 3) ls st1)) : W p l e R s m args below meth c H locs cells slots Q (F0 m pc ls st0) := by
  subst hst1
  have hz := kp_hz B hS
  obtain ⟨hx, hb, hml, ho, hlk, hr, hw, hE, hK, -⟩ := B
  obtain ⟨t1, t2, t3, t4⟩ := hT
  exact kp_goR (As := As) (va_runS (Ts := []) (bytes := bytes) (maxL := maxL) (ret := rt) (n := As.length) (As := As) (rest := rest) ⟨hx, hb, hml, ho, fun _ h => nomatch h⟩ hM
    ⟨⟨h0.1, h0.2, hR.1, hR.2, kp_code1 hw t1, List.mem_singleton.mpr rfl, hw _ t1 rfl, hw _ t2 rfl, t3, fun sig h => by rw [h] at t4; exact (Option.some.inj t4).symm, hw _ hl rfl⟩, hw _ hi rfl⟩
    ⟨kp_P.blind, kp_P.at hE hK hP hz⟩ rfl rfl hls hst (lv_room hrt) hdg hC) kk
/-- a private constructor of a nest mate -/
theorem kp_callI (B : kp_B p l s m args meth c own cc nL ret D ty sz) (hM : kp_M l y bytes maxL none rm D ty sz (.ref b :: As) ws r ws') (hT : kp_T y bytes maxL none As.length) (hn : y.name = "<init>")
    (hl : Cond.methodLinkNest own index y host ∈ lw_tbl) (hi : Cond.instanceMethod y ∈ lw_tbl)
    (hR : rm.frames + 1 ≤ R.frames ∧ 8 + (maxL + 11) + rm.locals ≤ R.locals) {cells1 slots1 : Nat} (hc1 : cells + rm.cells = cells1) (hs1 : slots + rm.slots = slots1) (hC : cells1 ≤ R.cells ∧ slots1 ≤ R.slots) (hst : st0 = As.reverse ++ .ref b :: rest) (hrt : (rest.map fun v => v.category).sum ≤ 8) (hls : ls.size = nL)
    (hP : va_P D vwCl ws H) (hS : va_S (kp_A sz) s.heap H locs) (hdg : decode cc pc = .ok (.invokespecial index, 3))
    {st1 : List Value} (hst1 : r.toList ++ rest = st1) (kk : ∀ (H1 : Heap) (locs1 : List Loc), va_P D vwCl ws' H1 → va_S (kp_A sz) s.heap H1 locs1 → W p l e R s m args below meth c H1 locs1 cells1 slots1 Q (F0 m (pc + 3) ls st1)) : W p l e R s m args below meth c H locs cells slots Q (F0 m pc ls st0) := by
  subst hst1; subst hc1; subst hs1
  have hz := kp_hz B hS
  obtain ⟨hx, hb, hml, ho, hlk, hr, hw, hE, hK, -⟩ := B
  obtain ⟨t1, t2, t3, t4⟩ := hT
  exact kp_go (rm := rm) (As := .ref b :: As) (va_runIN (Ts := []) (bytes := bytes) (maxL := maxL) (n := As.length) (As := As) (rest := rest) (b := b) (host := host) ⟨hx, hb, hml, ho, fun _ h => nomatch h⟩ hM
    ⟨⟨⟨rfl, rfl, hR.1, hR.2, kp_code1 hw t1, List.mem_singleton.mpr rfl⟩, hw _ t1 rfl, hw _ t2 rfl, t3, fun sig h => by rw [h] at t4; exact (Option.some.inj t4).symm, hw _ hl rfl⟩, hn, hw _ hi rfl⟩
    ⟨kp_P.blind, kp_P.at hE hK hP hz⟩ rfl rfl hls hst (lv_room hrt) hdg hC) hS kk
/-- Math.min, Math.max of two longs -/
theorem kp_min {x y : Int64} (B : kp_B p l s m args meth c own cc nL ret D ty sz) (hls : ls.size = nL) (k1 : Cond.methodLink own index Lib.MathLoose.min_long.x ∈ lw_tbl) (k2 : Cond.static Lib.MathLoose.min_long.x ∈ lw_tbl) (k3 : Cond.initialized "java/lang/Math" ∈ lw_tbl) (k4 : Cond.code Lib.MathLoose.min_long.x Lib.MathLoose.min_long.code 4 (some .long) ∈ lw_tbl)
    (hframes : 1 ≤ R.frames) (hlocals : (rest.map fun v => v.category).sum + 15 ≤ R.locals) (hc : cells ≤ R.cells) (hs : slots ≤ R.slots) (hdg : decode cc pc = .ok (.invokestatic index, 3))
    (kk : W p l e R s m args below meth c H locs cells slots Q (F0 m (pc + 3) ls (.long (z_min x y) :: rest))) : W p l e R s m args below meth c H locs cells slots Q (F0 m pc ls (.long y :: .long x :: rest)) := by
  obtain ⟨hx, hb, hml, ho, hlk, hr, hw, hE, hK, hz⟩ := B
  exact va_mmin_long hx hb (hml.trans hls.symm) ho (hw _ k1 rfl) (hw _ k2 rfl) (hw _ k3 rfl) (hw _ k4 rfl) hframes hlocals hc hs hdg kk
theorem kp_max {x y : Int64} (B : kp_B p l s m args meth c own cc nL ret D ty sz) (hls : ls.size = nL) (k1 : Cond.methodLink own index Lib.MathLoose.max_long.x ∈ lw_tbl) (k2 : Cond.static Lib.MathLoose.max_long.x ∈ lw_tbl) (k3 : Cond.initialized "java/lang/Math" ∈ lw_tbl) (k4 : Cond.code Lib.MathLoose.max_long.x Lib.MathLoose.max_long.code 4 (some .long) ∈ lw_tbl)
    (hframes : 1 ≤ R.frames) (hlocals : (rest.map fun v => v.category).sum + 15 ≤ R.locals) (hc : cells ≤ R.cells) (hs : slots ≤ R.slots) (hdg : decode cc pc = .ok (.invokestatic index, 3))
    (kk : W p l e R s m args below meth c H locs cells slots Q (F0 m (pc + 3) ls (.long (z_max x y) :: rest))) : W p l e R s m args below meth c H locs cells slots Q (F0 m pc ls (.long y :: .long x :: rest)) := by
  obtain ⟨hx, hb, hml, ho, hlk, hr, hw, hE, hK, hz⟩ := B
  exact va_mmax_long hx hb (hml.trans hls.symm) ho (hw _ k1 rfl) (hw _ k2 rfl) (hw _ k3 rfl) (hw _ k4 rfl) hframes hlocals hc hs hdg kk
end KPR
