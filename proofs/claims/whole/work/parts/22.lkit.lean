-- THE LAW'S WORLD: class, reference and the array 'out' side by side; the law's wrappers
def lw_o1 (Gm : mw_G) (aO : Nat) (f : Nat → Int64) : Nat × va_E := (aO, .inl (bJ Gm, 1, .inr (.inl f)))
def lw_W (G : cw_G) (c : cw_C) (Gm : mw_G) (M : mw_C) (aO : Nat) (f : Nat → Int64) : va_W := cw_W G c (mw_W Gm M [lw_o1 Gm aO f])
def lw_ad (G : cw_G) (Gm : mw_G) (aO : Nat) : List Nat := [aD G, aS G, aP G, aN G 0, aN G 1, aN G 2, aN G 3, aN G 4, aN G 5, aN G 6, aN G 7, aN G 8, aN G 9, bM Gm, bB Gm, bL Gm, bH Gm, aO]
def lw_ok (ty : List (ClassId × FieldType)) (sz : Nat) (G : cw_G) (Gm : mw_G) (aO : Nat) : Prop :=
  ty[0]? = some (aA G, .object RX1) ∧ ty[1]? = some (bZ Gm, .boolean) ∧ ty[2]? = some (bJ Gm, .long) ∧ (lw_ad G Gm aO).Nodup ∧ ∀ a ∈ lw_ad G Gm aO, sz ≤ a
theorem lw_D {A : Nat → Prop} {ws : va_W} (h : (ws.map (·.1)).Nodup) (hA : ∀ a ∈ ws.map (·.1), A a) : va_D A ws := by
  refine ⟨fun i j p q hi hj hpq => ?_, fun k q hk => hA _ (List.mem_map.mpr ⟨q, List.mem_of_getElem? hk, rfl⟩)⟩
  have hi' : (ws.map (·.1))[i]? = some p.1 := by rw [List.getElem?_map, hi]; rfl
  have hj' : (ws.map (·.1))[j]? = some p.1 := by rw [List.getElem?_map, hj, hpq]; rfl
  have hil : i < (ws.map (·.1)).length := (List.getElem?_eq_some_iff.mp hi').1
  exact (List.getElem?_inj hil h).mp (hi'.trans hj'.symm)
theorem lw_ok.c {ty : List (ClassId × FieldType)} {sz : Nat} {G : cw_G} {Gm : mw_G} {aO : Nat} (h : lw_ok ty sz G Gm aO) (M : mw_C) (f : Nat → Int64) : cw_ok ty sz G (mw_W Gm M [lw_o1 Gm aO f]) :=
  ⟨h.1, fun c => lw_D (ws := cw_W G c (mw_W Gm M [lw_o1 Gm aO f])) h.2.2.2.1 h.2.2.2.2⟩
theorem lw_perm (G : cw_G) (c : cw_C) (Gm : mw_G) (M : mw_C) (Z : va_W) : (mw_W Gm M (cw_W G c Z)).Perm (cw_W G c (mw_W Gm M Z)) := by
  have e1 : cw_W G c (mw_W Gm M Z) = cw_W G c [] ++ (mw_W Gm M [] ++ Z) := rfl
  have e2 : mw_W Gm M (cw_W G c Z) = mw_W Gm M [] ++ (cw_W G c [] ++ Z) := rfl
  rw [e1, e2, ← List.append_assoc, ← List.append_assoc]
  exact List.Perm.append_right Z List.perm_append_comm
theorem lw_ok.m {ty : List (ClassId × FieldType)} {sz : Nat} {G : cw_G} {Gm : mw_G} {aO : Nat} (h : lw_ok ty sz G Gm aO) (c : cw_C) (f : Nat → Int64) : mw_ok ty sz Gm (cw_W G c [lw_o1 Gm aO f]) := by
  refine ⟨h.2.1, h.2.2.1, fun M => ?_⟩
  have hp := (lw_perm G c Gm M [lw_o1 Gm aO f]).map (·.1)
  exact lw_D (hp.nodup_iff.mpr h.2.2.2.1) (fun a ha => h.2.2.2.2 a (hp.mem_iff.mp ha))
theorem lw_Pmem {D : va_G} {ws : va_W} {H : Heap} : va_P D vwCl ws H ↔ ∀ q ∈ ws, va_at D vwCl q H := by
  constructor
  · intro h q hq
    obtain ⟨k, hk⟩ := List.getElem?_of_mem hq
    exact h k q hk
  · intro h k q hk
    exact h q (List.mem_of_getElem? hk)
theorem lw_toM {D : va_G} {G : cw_G} {c : cw_C} {Gm : mw_G} {M : mw_C} {Z : va_W} {H : Heap} (h : va_P D vwCl (cw_W G c (mw_W Gm M Z)) H) : va_P D vwCl (mw_W Gm M (cw_W G c Z)) H :=
  lw_Pmem.mpr (fun q hq => lw_Pmem.mp h q ((lw_perm G c Gm M Z).mem_iff.mp hq))
theorem lw_toC {D : va_G} {G : cw_G} {c : cw_C} {Gm : mw_G} {M : mw_C} {Z : va_W} {H : Heap} (h : va_P D vwCl (mw_W Gm M (cw_W G c Z)) H) : va_P D vwCl (cw_W G c (mw_W Gm M Z)) H :=
  lw_Pmem.mpr (fun q hq => lw_Pmem.mp h q ((lw_perm G c Gm M Z).mem_iff.mpr hq))
/-- what a wrapper answers and leaves -/
def lw_k (o : Option Int32) : Int32 := match o with
  | none => 1
  | some _ => 0
def lw_c (o : Option Int32) (c c' : cw_C) : cw_C := match o with
  | none => c
  | some _ => c'
def lw_f (o : Option Int32) (f : Nat → Int64) : Nat → Int64 := match o with
  | none => f
  | some v => vp_updL f (0 : Int32).toNatClampNeg v.toInt64
theorem kx_P.blind {D : va_G} {ty : List (ClassId × FieldType)} {sz : Nat} {ws : va_W} {av : List Value} : FrameBlind (va_Pc av (kx_P D ty sz ws)) := by
  intro a U g mk h
  obtain ⟨h0, h1, h2⟩ := h
  have h3 := kp_P.blind (av := av) a U g mk ⟨h0, h1⟩
  exact ⟨h0, h3.2, h2.at (U := U.calling g mk a) (Vm.Alike.refl U.vm) rfl⟩
def kw_M (l : Launch) (y : MethodName) (cc : ByteArray) (nL : Nat) (ret : Option FieldType) (hh : List (Nat × Nat × Nat × Nat)) (rm : Room) (D : va_G) (ty : List (ClassId × FieldType)) (sz : Nat) (av : List Value) (ws : va_W) (r : Option Value) (ws' : va_W) : Prop :=
  Met l y [Cond.codeWith y cc nL ret hh] rm (va_Pc av (kx_P D ty sz ws)) (kp_Q D sz r ws') rm.cells rm.slots (kp_A sz)
theorem kw_body {l : Launch} {y : MethodName} {cc : ByteArray} {nL : Nat} {ret : Option FieldType} {hh : List (Nat × Nat × Nat × Nat)} {rm : Room} {D : va_G} {ty : List (ClassId × FieldType)} {sz : Nat} {av : List Value} {ws : va_W} {r : Option Value} {ws' : va_W}
    (hy : plainName y.cls = true) (hn : (lg_sl av).length ≤ nL) {lv : List (Nat × Value)} (hlv : lv_args 0 av = lv)
    (body : ∀ (p : Program) (e : Env) (s : State) (m : MethodId) (args : Array Value) (below : List Frame) (meth : Method) (c : Code) (ls : Array Slot), kp_B p l s m args meth c y.cls cc nL ret D ty sz → c.exceptionTable.toList = tableOf hh → kx_H s → lv_has ls nL lv → va_P D vwCl ws s.heap → va_S (kp_A sz) s.heap s.heap [] →
      W p l e rm s m args below meth c s.heap [] 0 0 (MQ below (kp_Q D sz r ws') args s rm.cells rm.slots (kp_A sz)) (F0 m 0 ls [])) :
    kw_M l y cc nL ret hh rm D ty sz av ws r ws' := by
  refine va_MetW (hh := hh) (cc := cc) (maxL := nL) (ret := ret) hy rfl ?_
  intro p e s m args below meth c s₁ B hml hv
  obtain ⟨rfl, ⟨hE, hK, hP, hz⟩, hH⟩ := hv
  have htab : c.exceptionTable.toList = tableOf hh := by
    obtain ⟨m9, meth9, c9, hn9, h1, h2, -, -, h6, -⟩ := Cond.codeWith_spec (atoms_spec (ws := [Cond.codeWith y cc nL ret hh]) B.pre _ List.mem_cons_self)
    cases Option.some.inj (hn9.symm.trans B.named)
    cases Option.some.inj (h1.symm.trans B.method)
    cases Option.some.inj (h2.symm.trans (Stand.of_body B).code)
    rw [← h6, table_eq]
  have hl := lv_entry av (n := nL) hn
  rw [lg_entry_eq]
  generalize (lg_sl av ++ List.replicate (nL - (lg_sl av).length) Slot.unset).toArray = ls at hl ⊢
  rw [hlv] at hl
  exact body p e s m av.toArray below meth c ls ⟨B.exec, B.bytes, hml, findClass_of_methodNamed B.named, B.notSynchronized, B.returns, hE.use, hE, hK, hz⟩ htab hH hl hP va_S.rf
section KWR
variable {p : Program} {l : Launch} {e : Env} {R : Room} {s : State} {m : MethodId} {args : Array Value} {below : List Frame} {meth : Method} {cd : Code} {H : Heap} {locs : List Loc} {cells slots : Nat} {Q : State → Prop}
variable {own : String} {cc : ByteArray} {nL : Nat} {ret : Option FieldType} {D : va_G} {ty : List (ClassId × FieldType)} {sz pc index : Nat} {ls : Array Slot} {rest : List Value} {ws ws' : va_W} {r : Option Value}
variable {y : MethodName} {bytes : ByteArray} {maxL : Nat} {rt : Option FieldType} {hh : List (Nat × Nat × Nat × Nat)} {rm : Room} {As st0 : List Value}
theorem kw_callS (B : kp_B p l s m args meth cd own cc nL ret D ty sz) (hM : kw_M l y bytes maxL rt hh rm D ty sz As ws r ws') (k1 : Cond.codeWith y bytes maxL rt hh ∈ lw_tbl) (k2 : Cond.initialized y.cls ∈ lw_tbl)
    (hy : (y.cls ≠ "java/lang/invoke/MethodHandle" ∧ y.cls ≠ "java/lang/invoke/VarHandle") ∧ (parseMethodDescriptor y.desc).map (fun d => d.parameters.length) = some As.length)
    (hl : Cond.methodLink own index y ∈ lw_tbl) (hi : Cond.static y ∈ lw_tbl) (hX : ∀ U : State, U.heap = H → s.vm.Alike U.vm → kx_H U)
    (hR : rm.frames + 1 ≤ R.frames ∧ 8 + (maxL + 11) + rm.locals ≤ R.locals) {cells1 slots1 : Nat} (hc1 : cells + rm.cells = cells1) (hs1 : slots + rm.slots = slots1) (hC : cells1 ≤ R.cells ∧ slots1 ≤ R.slots) (hst : st0 = As.reverse ++ rest) (hrt : (rest.map fun v => v.category).sum ≤ 8) (hls : ls.size = nL)
    (hP : va_P D vwCl ws H) (hS : va_S (kp_A sz) s.heap H locs) (hdg : decode cc pc = .ok (.invokestatic index, 3))
    {st1 : List Value} (hst1 : r.toList ++ rest = st1) (kk : ∀ (H1 : Heap) (locs1 : List Loc), va_P D vwCl ws' H1 → va_S (kp_A sz) s.heap H1 locs1 → W p l e R s m args below meth cd H1 locs1 cells1 slots1 Q (F0 m (pc + 3) ls st1)) : W p l e R s m args below meth cd H locs cells slots Q (F0 m pc ls st0) := by
  subst hst1; subst hc1; subst hs1
  have hz := kp_hz B hS
  obtain ⟨hx, hb, hml, ho, hlk, hr, hw, hE, hK, -⟩ := B
  refine kp_go (rm := rm) (As := As) ?_ hS kk
  intro T hT X
  have hBk : Back l R p e below s args y 3 8 (PreOf R rm.cells rm.slots (va_Pc As (kx_P D ty sz ws))) (PostOf (kp_Q D sz r ws') rm.cells rm.slots (kp_A sz)) :=
    va_backW (hh := hh) (bytes := bytes) (maxL := maxL) (ret := rt) hM kx_P.blind rfl rfl hR.1 hR.2 (fun w hm a' U hW => by rw [List.mem_singleton.mp hm]; exact kp_at hW rfl (hw _ k1 rfl)) (List.mem_singleton.mpr rfl) (fun a' U hW => kp_at hW rfl (hw _ k2 rfl))
  obtain ⟨mk, methM, cM, hnamed, hmethM, -, -, -, -, -, -, hsigM⟩ := Cond.codeWith_spec (hw _ k1 rfl)
  have hstatic : methM.isStatic = true := Cond.static_spec hnamed hmethM (hw _ hi rfl)
  obtain ⟨kP, hkP, -⟩ := className_of_methodNamed hnamed
  have hinitP : kP.init = .initialized := Cond.initialized_spec (findClass_of_methodNamed hnamed) hkP (hw _ k2 rfl)
  have hlen : As.length = methM.sig.parameters.length := by
    have h2 := hy.2
    rw [hsigM] at h2
    exact (Option.some.inj h2).symm
  obtain ⟨vm₁, X₁, hstep₁⟩ := X.invokestatic hx ho (hw _ hl rfl) hnamed hmethM hstatic hkP hinitP hy.1 (g := F0 m pc ls st0) rfl (argsL := As) (rest := rest) hlen hst (by rw [hb]; exact hdg)
  have hPc : va_Pc As (kx_P D ty sz ws) As.toArray (T.setVm vm₁) := by
    have h1 := kp_P.at (av := As) hE hK hP hz (T.setVm vm₁) hT X₁.warmed
    exact ⟨rfl, h1.2, hX _ hT X₁.warmed.alike⟩
  obtain ⟨v, ⟨U', l2, c2, s2⟩, X', ⟨g', mk', t, L, e1, e2, hq, h1, hL, h2, h3⟩, hsteps⟩ := hBk m meth cd ⟨T.setVm vm₁, locs, cells, slots⟩ { F0 m pc ls st0 with stack := rest } (.invokestatic index) mk As.toArray X₁ rfl (hls.trans hml.symm) (by rw [hb]; exact hdg) (lv_room hrt) (X₁.named hnamed) ⟨hC.1, hC.2, hPc⟩
  dsimp only [Pt.U, Pt.locs, Pt.cells, Pt.slots] at X' e1 e2 h1 h2 h3 hsteps
  subst h1; subst h2; subst h3
  exact ⟨v, (T.setVm vm₁).calling g' mk' As.toArray, t, U', L, hT, X', hL, e1, e2, hq, fun target h => hstep₁ _ fun acts => by rw [doInvoke_state]; exact hsteps.trans h⟩
/-- out[0] = x -/
theorem kw_out {G : cw_G} {c : cw_C} {Gm : mw_G} {M : mw_C} {aO : Nat} {f : Nat → Int64} {x : Int64} (B : kp_B p l s m args meth cd own cc nL ret D ty sz) (hG : lw_ok ty sz G Gm aO) (hP : va_P D vwCl (lw_W G c Gm M aO f) H) (hS : va_S (kp_A sz) s.heap H locs) (hdg : decode cc pc = .ok (.lastore, 1))
    (kk : ∀ (H1 : Heap) (locs1 : List Loc), va_P D vwCl (lw_W G c Gm M aO (vp_updL f (0 : Int32).toNatClampNeg x)) H1 → va_S (kp_A sz) s.heap H1 locs1 → W p l e R s m args below meth cd H1 locs1 cells slots Q (F0 m (pc + 1) ls rest)) : W p l e R s m args below meth cd H locs cells slots Q (F0 m pc ls (.long x :: .int 0 :: .ref aO :: rest)) := by
  obtain ⟨hx, hb, hml, ho, hlk, hr, hw, hE, hK, hz⟩ := B
  exact va_last (D := D) hx hb hK hP ((hG.c M f).2 c) hS 17 2 rfl hG.2.2.1 (vp_in_iff.mpr (by decide)) hdg (fun H1 locs1 hP1 hD1 hS1 => kk H1 locs1 hP1 hS1)
theorem kw_oald {G : cw_G} {c : cw_C} {Gm : mw_G} {M : mw_C} {aO : Nat} {f : Nat → Int64} (B : kp_B p l s m args meth cd own cc nL ret D ty sz) (hG : lw_ok ty sz G Gm aO) (hP : va_P D vwCl (lw_W G c Gm M aO f) H) (hdg : decode cc pc = .ok (.laload, 1))
    (kk : W p l e R s m args below meth cd H locs cells slots Q (F0 m (pc + 1) ls (.long (f (0 : Int32).toNatClampNeg) :: rest))) : W p l e R s m args below meth cd H locs cells slots Q (F0 m pc ls (.int 0 :: .ref aO :: rest)) := by
  obtain ⟨hx, hb, hml, ho, hlk, hr, hw, hE, hK, hz⟩ := B
  exact va_lald (D := D) hx hb hK hP 17 2 rfl hG.2.2.1 (vp_in_iff.mpr (by decide)) hdg kk
end KWR
