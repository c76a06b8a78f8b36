-- METHODS THAT THROW, AND THE CATCHING OF IT (launches without stack traces)
/-- what a throw needs of the heap: Throwable's two statics -/
def kx_ws : List Cond := [.isRef (.static Bundle.tN "UNASSIGNED_STACK" Bundle.steD), .isRef (.static Bundle.tN "SUPPRESSED_SENTINEL" Bundle.listD), .laysStatic Bundle.tN "UNASSIGNED_STACK" Bundle.steD, .laysStatic Bundle.tN "SUPPRESSED_SENTINEL" Bundle.listD]
def kx_H (U : State) : Prop := ∀ (A : Array Value), ∀ w ∈ kx_ws, w.before A U = true
theorem kx_one {s U : State} {A B : Array Value} {C n d : String} (hl : (Cond.laysStatic C n d).before A s = true) (hr : (Cond.isRef (.static C n d)).before A s = true) (hvm : s.vm.Alike U.vm) (hq : ∀ q, q < s.heap.size → U.heap[q]? = s.heap[q]?) :
    (Cond.laysStatic C n d).before B U = true ∧ (Cond.isRef (.static C n d)).before B U = true := by
  obtain ⟨c, k, i, f, a, cell, h1, h2, h3, h4, h5, h6, h7, h8, h9⟩ := Cond.laysStatic_spec hl
  obtain ⟨k', hi', he⟩ := State.fieldFound?_setVm hvm h2
  have h5' : U.heap[a]? = some cell := by rw [hq a (Array.getElem?_eq_some_iff.mp h5).1]; exact h5
  have h4' : k'.statics = some a := by rw [he]; exact h4
  have h9' : k'.staticTypes[f.slot]? = some f.type := by rw [he]; exact h9
  have hi2 : U.fieldFound? C n d = some (c, k', i, f) := hi'
  refine ⟨?_, ?_⟩
  · show (Cond.laysStatic C n d).holds B U none U [] = true
    exact Cond.laysStatic_of (by rw [hvm.findClass]; exact h1) hi2 h3 h4' h5' h6 h7 h8 h9'
  · have e1 : (Term.static C n d).eval A s none [] s = cell.slots[f.slot]? := by simp [Term.eval, State.fieldNamed?, h2, h3, h4, h5, h6]
    have e2 : (Term.static C n d).eval B U none [] U = cell.slots[f.slot]? := by simp [Term.eval, State.fieldNamed?, hi2, h3, h4', h5', h6]
    simp only [Cond.before, Cond.holds, Cond.value, e1] at hr
    simp only [Cond.before, Cond.holds, Cond.value, e2]
    exact hr
theorem kx_H.of {s U : State} {A : Array Value} (h : ∀ w ∈ kx_ws, w.before A s = true) (hvm : s.vm.Alike U.vm) (hq : ∀ q, q < s.heap.size → U.heap[q]? = s.heap[q]?) : kx_H U := by
  intro B w hw
  have a1 := kx_one (B := B) (h _ (List.mem_of_getElem? (i := 2) rfl)) (h _ (List.mem_of_getElem? (i := 0) rfl)) hvm hq
  have a2 := kx_one (B := B) (h _ (List.mem_of_getElem? (i := 3) rfl)) (h _ (List.mem_of_getElem? (i := 1) rfl)) hvm hq
  simp only [kx_ws, List.mem_cons, List.not_mem_nil, or_false] at hw
  rcases hw with rfl | rfl | rfl | rfl
  · exact a1.2
  · exact a2.2
  · exact a1.1
  · exact a2.1
theorem kx_H.at {s U : State} (h : kx_H s) (hvm : s.vm.Alike U.vm) (hq : U.heap = s.heap) : kx_H U := kx_H.of (A := #[]) (h #[]) hvm (fun q _ => by rw [hq])
/-- the end of a method that may throw: f says which -/
def kx_Q (D : va_G) (sz : Nat) (f : Option Value) (ws' : va_W) (E : String) : Array Value → State → Outcome → State → Prop := fun _ st oc t =>
  (∃ v : Value, f = some v ∧ oc = .returned (some v) ∧ va_P D vwCl ws' t.heap ∧ va_F (kp_A sz) st t ∧ ∃ L, FrameEnd st oc t L 1 6 ∧ ∀ q ∈ L, kp_A sz q.base) ∨
  (∃ (q : Addr) (ce : Cell), f = none ∧ oc = .threw q ∧ t.heap[q]? = some ce ∧ ce.vm = .none ∧ st.vm.findClass E = some ce.cls ∧ st.WarmedH t.vm ∧ st.sameButNew ({ t with vm := st.vm } : State) [] 1 6)
def kx_P (D : va_G) (ty : List (ClassId × FieldType)) (sz : Nat) (ws : va_W) (U : State) : Prop := kp_P D ty sz ws U ∧ kx_H U
def kx_M (l : Launch) (y : MethodName) (cc : ByteArray) (nL : Nat) (ret : Option FieldType) (rm : Room) (D : va_G) (ty : List (ClassId × FieldType)) (sz : Nat) (av : List Value) (ws : va_W) (f : Option Value) (ws' : va_W) (E : String) : Prop :=
  MetFree l y (headSpec [Cond.code y cc nL ret] rm) (va_Pc av (kx_P D ty sz ws)) (fun _ _ _ _ _ => True) (kx_Q D sz f ws' E)
def kx_MQ (below : List Frame) (Qx : Array Value → State → Outcome → State → Prop) (args : Array Value) (s : State) : State → Prop := fun t => ∃ o, t.status = .running ∧ Ended t below o ∧ Qx args s o t
theorem kx_body {l : Launch} {y : MethodName} {cc : ByteArray} {nL : Nat} {ret : Option FieldType} {rm : Room} {D : va_G} {ty : List (ClassId × FieldType)} {sz : Nat} {av : List Value} {ws : va_W} {f : Option Value} {ws' : va_W} {E : String}
    (hy : plainName y.cls = true) (hn : (lg_sl av).length ≤ nL) {lv : List (Nat × Value)} (hlv : lv_args 0 av = lv)
    (body : ∀ (p : Program) (e : Env) (s : State) (m : MethodId) (args : Array Value) (below : List Frame) (meth : Method) (c : Code) (ls : Array Slot), kp_B p l s m args meth c y.cls cc nL ret D ty sz → (∀ x ∈ c.exceptionTable.toList, False) → kx_H s → lv_has ls nL lv → va_P D vwCl ws s.heap → va_S (kp_A sz) s.heap s.heap [] →
      W p l e rm s m args below meth c s.heap [] 0 0 (kx_MQ below (kx_Q D sz f ws' E) args s) (F0 m 0 ls [])) :
    kx_M l y cc nL ret rm D ty sz av ws f ws' E := by
  refine MetFree.of_bodyS (code := cc) (maxLocals := nL) (ret := ret) hy ?_ ?_
  · intro args s m h hn
    obtain ⟨meth, c, h1, h2, h3, h4, h5, h6, -, -⟩ := Cond.code_spec hn (atoms_spec (ws := [Cond.code y cc nL ret]) h _ List.mem_cons_self)
    exact ⟨meth, c, h1, h2, h3, h4, h5, h6⟩
  · intro p e s m args below meth c s₁ B hml hv _
    obtain ⟨rfl, ⟨hE, hK, hP, hz⟩, hH⟩ := hv
    have hh0 : s₁.heap = s.heap := by rw [B.state]; rfl
    have hexc : ∀ x ∈ c.exceptionTable.toList, False := by
      have h7 := B.noHandlers (atoms_spec (ws := [Cond.code y cc nL ret]) B.pre _ List.mem_cons_self)
      intro x hx
      rw [Array.isEmpty_iff.mp h7] at hx
      cases hx
    have hl := lv_entry av (n := nL) hn
    have K : W p l e rm s m av.toArray below meth c s.heap [] 0 0 (kx_MQ below (kx_Q D sz f ws' E) av.toArray s) (entryFrame m av.toArray nL) := by
      rw [lg_entry_eq]
      generalize (lg_sl av ++ List.replicate (nL - (lg_sl av).length) Slot.unset).toArray = ls at hl ⊢
      rw [hlv] at hl
      exact body p e s m av.toArray below meth c ls ⟨B.exec, B.bytes, hml, findClass_of_methodNamed B.named, B.notSynchronized, B.returns, hE.use, hE, hK, hz⟩ hexc hH hl hP va_S.rf
    obtain ⟨t, a1, o, b1, b2, b3⟩ := K s₁ hh0 (Stand.of_body B)
    exact ⟨t, o, a1, b1, b2, b3⟩
-- NoSuchElementException: the words of its constructor's chain, and the chain walked
def kx_N : String := "java/util/NoSuchElementException"
def kx_R : String := "java/lang/RuntimeException"
abbrev kx_b13 : ByteArray := prog_12_method_4_code
def kx_atN : List Cond :=
  Bundle.throwableAtoms ++ Bundle.throwableSAtoms ++ Bundle.passSAtoms kx_N kx_R 13 kx_b13 ++ Bundle.chainSAtoms kx_R ["java/lang/Exception"] ++
  [.instantiable kx_N 6, .castable kx_N kx_N, .selects kx_N Bundle.tFill0 Bundle.tFill0, .selects kx_N Bundle.tFill Bundle.tFill,
   .lays kx_N Bundle.tN "cause" "Ljava/lang/Throwable;", .lays kx_N Bundle.tN "stackTrace" Bundle.steD, .lays kx_N Bundle.tN "suppressedExceptions" Bundle.listD, .lays kx_N Bundle.tN "detailMessage" "Ljava/lang/String;",
   .isRef (.static Bundle.tN "UNASSIGNED_STACK" Bundle.steD), .isRef (.static Bundle.tN "SUPPRESSED_SENTINEL" Bundle.listD),
   .fieldLink Bundle.tN 198 Bundle.tN "backtrace" "Ljava/lang/Object;", .lays Bundle.tN Bundle.tN "backtrace" "Ljava/lang/Object;", .lays kx_N Bundle.tN "backtrace" "Ljava/lang/Object;"]
theorem kx_atN_in : ∀ w ∈ kx_atN, w ∈ kx_ws ∨ (w ∈ lw_tbl ∧ kp_w w = true) := by decide +kernel
theorem kx_d13_0 : decode kx_b13 0 = .ok (.aload_n 0, 1) := by decide +kernel
theorem kx_d13_1 : decode kx_b13 1 = .ok (.aload_n 1, 1) := by decide +kernel
theorem kx_d13_2 : decode kx_b13 2 = .ok (.invokespecial 13, 3) := by decide +kernel
theorem kx_d13_5 : decode kx_b13 5 = .ok (.return_, 1) := by decide +kernel
set_option maxHeartbeats 4000000 in
theorem kx_ctorN {p : Program} {l : Launch} {e : Env} {R : Room} {s : State} {m₀ : MethodId} {args : Array Value} {below : List Frame} {meth : Method} {c : Code} {V : State} {cells slots : Nat}
    (X : Stand p l e R s m₀ args below meth c V [] cells slots) (hexec : p.tables.exec = Jvm.exec) (htr : e.platform.stackTraces = false) {own : String} {ic : Nat}
    (hown : s.vm.findClass own = some m₀.cls) (hlink0 : (Cond.methodLink own ic (Bundle.initS kx_N)).before args s = true)
    (h : ∀ a ∈ kx_atN, a.before args s = true)
    {a : Addr} {cX : ClassId} {kX : Class} (hfoundX : s.vm.findClass kx_N = some cX) (hkX : s.vm.classes[cX]? = some kX) (hcell : V.heap[a]? = some (freshCell cX kX)) (hnew : s.heap.size ≤ a)
    {msg : Value} (hmsg : msg.isRef = true)
    {g : JFrame} (hg : g.method = m₀) (hsize : g.locals.size = c.maxLocals) (hlocked : g.locked = none) (hentered : g.entered = []) (hstack : g.stack = msg :: .ref a :: .ref a :: [])
    (hd6 : decode c.code g.pc = .ok (.invokespecial ic, 3)) (hd9 : decode c.code (g.pc + 3) = .ok (.athrow, 1)) (hout : ∀ x ∈ c.exceptionTable.toList, covers x (g.pc + 3) = false)
    (hRframes : 5 < R.frames) (hRlocals : 2 * g.monitorRoom + ((Value.ref a :: []).map fun v => v.category).sum + (13 * 3 + 42) ≤ R.locals) (hlocks : meth.locks = false) :
    ∃ U : State, Steps p.tables e below (V.setTop g) U ∧ U.status = .running ∧ Ended U below (.threw a) ∧ s.WarmedH U.vm ∧ s.sameButNew ({ U with vm := s.vm } : State) [] cells slots ∧
      ∃ ce, U.heap[a]? = some ce ∧ ce.vm = .none ∧ s.vm.findClass kx_N = some ce.cls := by
  have howns : e.platform.frameOwnsMonitors = true := by rw [X.admits.platform]
  have hfin : e.platform.finalization = false := by rw [X.admits.platform]
  have hpl : e.platform.magicAccessors = ({} : Platform).magicAccessors := by rw [X.admits.platform]
  have a' : ∀ x, x ∈ kx_atN → x.holds args s none s [] = true := fun x hx => h x hx
  obtain ⟨T, Z0, L, -, Y⟩ := ThrowableC.of_atoms (args := args) howns hfin hpl (fun x hx => h x (by simp [kx_atN, hx]))
  obtain ⟨Z, M, LZ, LM, hnZ⟩ := Init0T.ofS_atoms (args := args) hpl L Y (fun x hx => h x (by simp [kx_atN, hx]))
  obtain ⟨P0, L0, hP0m, hP0s⟩ := PassC.ofS_atoms (args := args) (s := s) hpl (X := kx_N) (Y := kx_R) (by decide +kernel) (by decide +kernel) kx_d13_0 kx_d13_1 kx_d13_2 kx_d13_5 (fun x hx => h x (by simp [kx_atN, hx]))
  obtain ⟨P1, Ps, hlen, L1, hL, hP1m, hlink1, hlink⟩ := Bundle.chainS (args := args) hpl hnZ ["java/lang/Exception"] kx_R (by decide +kernel) (by decide +kernel) (fun x hx => h x (by simp [kx_atN, hx]))
  have hsup0 : P0.sup = P1.m := Option.some.inj (hP0s.symm.trans hP1m)
  have hfound : s.vm.findClass kx_N = some P0.m.cls := findClass_of_methodNamed hP0m
  cases Option.some.inj (hfoundX.symm.trans hfound)
  obtain ⟨c1, kX', hc1, hk, hord, -, -, hn6⟩ := Cond.instantiable_spec (a' (.instantiable kx_N 6) (by simp [kx_atN]))
  cases Option.some.inj (hc1.symm.trans hfound)
  cases Option.some.inj (hkX.symm.trans hk)
  have hsel0 : selectMethod e.platform s.vm P0.m.cls T.fill0 = .method T.fill0 := by
    obtain ⟨c2, r2, m2, q1, q2, q3, q4, -⟩ := Cond.selects_spec (a' (.selects kx_N Bundle.tFill0 Bundle.tFill0) (by simp [kx_atN]))
    cases Option.some.inj (q1.symm.trans hfound)
    cases Option.some.inj (q2.symm.trans (State.methodFound?_of_named Y.fill0 (by decide)))
    cases Option.some.inj (q3.symm.trans Y.fill0)
    rw [Launch.admits_selectMethod X.admits]; exact q4
  have hselF : selectMethod e.platform s.vm P0.m.cls T.fill = .method T.fill := by
    obtain ⟨c2, r2, m2, q1, q2, q3, q4, -⟩ := Cond.selects_spec (a' (.selects kx_N Bundle.tFill Bundle.tFill) (by simp [kx_atN]))
    cases Option.some.inj (q1.symm.trans hfound)
    cases Option.some.inj (q2.symm.trans (State.methodFound?_of_named Y.fill (by decide)))
    cases Option.some.inj (q3.symm.trans Y.fill)
    rw [Launch.admits_selectMethod X.admits]; exact q4
  obtain ⟨cellS0, hcS0, hiss⟩ := Y.statics
  obtain ⟨u0, hu0⟩ := Cond.staticRefV Y.unassigned L.unassignedStatic L.statics hcS0 hiss (a' (.isRef (.static Bundle.tN "UNASSIGNED_STACK" Bundle.steD)) (by simp [kx_atN]))
  obtain ⟨sen, hsen⟩ := Cond.staticRefV Y.sentinel L.sentinelStatic L.statics hcS0 hiss (a' (.isRef (.static Bundle.tN "SUPPRESSED_SENTINEL" Bundle.listD)) (by simp [kx_atN]))
  obtain ⟨ci198, i198, fB, hk198, hg198, ha198, hsB, -, hnB, htB, hffB⟩ := Cond.ownField (t := .object "java/lang/Object") Y.found L.cls (by decide +kernel) (a' (.fieldLink Bundle.tN 198 Bundle.tN "backtrace" "Ljava/lang/Object;") (by simp [kx_atN])) (a' (.lays Bundle.tN Bundle.tN "backtrace" "Ljava/lang/Object;") (by simp [kx_atN])) e.platform hpl
  obtain ⟨cellS, hcS', heS, -, hkeep⟩ := X.same.2.2.2.2.2 T.aS cellS0 hcS0
  have hcellS : V.heap[T.aS]? = some cellS := hcS'
  have hout' : ∀ i, (⟨T.aS, i⟩ : Loc) ∉ ([] : List Loc) := fun i hmem => nomatch hmem
  have hknownS : cellS.vm ≠ .unknown := by
    rw [heS]; intro hu
    rw [show cellS0.vm = .unknown from hu] at hiss
    cases hiss
  have hneS : T.aS ≠ a := Nat.ne_of_lt (Nat.lt_of_lt_of_le (Array.getElem?_eq_some_iff.mp hcS0).1 hnew)
  obtain ⟨iM, hffM⟩ := Y.msg
  obtain ⟨tyC, dC, hdC, hdnC⟩ := Cond.laysAt hfound hk Y.cause (a' (.lays kx_N Bundle.tN "cause" "Ljava/lang/Throwable;") (by simp [kx_atN]))
  obtain ⟨tyS, dS, hdS, hdnS⟩ := Cond.laysAt hfound hk Y.stack (a' (.lays kx_N Bundle.tN "stackTrace" Bundle.steD) (by simp [kx_atN]))
  obtain ⟨tyP, dP, hdP, hdnP⟩ := Cond.laysAt hfound hk Y.supp (a' (.lays kx_N Bundle.tN "suppressedExceptions" Bundle.listD) (by simp [kx_atN]))
  obtain ⟨tyM, dM, hdM, hdnM⟩ := Cond.laysAt hfound hk hffM (a' (.lays kx_N Bundle.tN "detailMessage" "Ljava/lang/String;") (by simp [kx_atN]))
  obtain ⟨tyB, dB, hdB, hdnB⟩ := Cond.laysAt hfound hk hffB (a' (.lays kx_N Bundle.tN "backtrace" "Ljava/lang/Object;") (by simp [kx_atN]))
  have bC := Cond.laysApart hdB hdC hdnB hdnC (by rw [hnB, Y.causeName]; decide)
  have bS := Cond.laysApart hdB hdS hdnB hdnS (by rw [hnB, Y.stackName]; decide)
  have bP := Cond.laysApart hdB hdP hdnB hdnP (by rw [hnB, Y.suppName]; decide)
  have hskip : SkipFacts T e.platform s (fun u => u) u0 ((preparedCellV T.toThrowableT (freshCell P0.m.cls kX) a u0 sen).withEntry V.cur) :=
    ⟨{ ci198 := ci198, i198 := i198, fBack := fB }, ⟨hk198, hg198, ha198, hsB⟩, by
      have := fresh_default (c := P0.m.cls) tyB
      rw [htB] at this
      simpa [preparedCellV, Cell.setSlot, Cell.withEntry, Array.getElem?_setIfInBounds, bC, bS, bP, bC.symm, bS.symm, bP.symm, defaultValue] using this, fun _ _ => rfl⟩
  obtain ⟨tm, methC, cdC, kC, vm₁, hnC, -, -, -, -, -, -, -, hW₁, st1⟩ := Steps.initColdS (tb := p.tables) (e := e) (below := below) (s := s) (U := V) X.here hexec X.warmed hpl hown (t := Bundle.initS kx_N) rfl rfl (by decide +kernel)
    hlink0 (h (.instanceMethod (Bundle.initS kx_N)) (by simp [kx_atN, Bundle.passSAtoms])) (bytes := kx_b13) (maxL := 2) (h (.code (Bundle.initS kx_N) kx_b13 2 none) (by simp [kx_atN, Bundle.passSAtoms]))
    (f := g) hg (a := a) (msg := msg) (rest := .ref a :: []) hstack hd6
  cases Option.some.inj (hnC.symm.trans hP0m)
  have X₁ := X.noted hW₁
  obtain ⟨vm₂, X₂, st2⟩ := X₁.ctorMessageOffV hexec (g := { g with stack := .ref a :: [] }) hg hsize T L Z LZ M LM (P0 :: P1 :: Ps)
    (fun P hP => by
      rcases List.mem_cons.mp hP with rfl | hP
      · exact L0
      · rcases List.mem_cons.mp hP with rfl | hP
        · exact L1
        · exact hL P hP) ⟨hsup0, hlink1, hlink⟩ (u0 := u0) (sen := sen) (self := a) hmsg (cell := freshCell P0.m.cls kX) (cellS := cellS)
    hcell (fun _ => by simp) (by simp) rfl rfl hsel0 hselF hcellS hneS hknownS (by rw [hkeep _ (hout' _)]; exact hu0) (by rw [hkeep _ (hout' _)]; exact hsen)
    (Takes.of_laid hk hord tyC (by rw [Y.causeType]; rfl)) (Takes.of_laid hk hord tyS (by rw [Y.stackType]; exact fits_refV_array _ u0)) (Takes.of_laid hk hord tyP (by rw [Y.suppType]; exact fits_refV_object _ sen))
    (Takes.of_laid hk hord tyM (by rw [Y.msgType]; exact fits_refV_object _ ⟨msg, hmsg⟩)) Y.objLocals hskip htr [] hd6
    (by simp only [List.length_cons, hlen]; exact hRframes) (by simp only [List.length_cons, hlen]; exact hRlocals)
  obtain ⟨hwalk, hrun, hended, hWU, hsame⟩ := X₂.athrowLeaves hexec (g := { g with stack := .ref a :: [], pc := g.pc + 3 }) hg hlocked hentered hout (a := a) (rest := []) rfl hd9
  have hlt : a < ((V.setVm vm₁).setVm vm₂).heap.size := (Array.getElem?_eq_some_iff.mp hcell).1
  have hU := heapAt_setCell_self (s := (V.setVm vm₁).setVm vm₂) (plainBareV T.toThrowableT (freshCell P0.m.cls kX) a u0 sen msg) hlt
  refine ⟨_, st1 _ (fun acts => ?_), hrun, hended, hWU, hsame.weaken (fun y hy hlt' => ?_) (Nat.le_refl _) (Nat.le_refl _), _, hU, rfl, hfound⟩
  · rw [doInvoke_state]
    exact st2 _ hwalk
  · exfalso
    have hb : y.base = a := by
      simp only [List.nil_append, List.mem_cons, List.not_mem_nil, or_false] at hy
      rcases hy with rfl | rfl | rfl | rfl | rfl <;> rfl
    rw [hb] at hlt'
    exact Nat.not_lt.mpr hnew hlt'
section KXR
variable {p : Program} {l : Launch} {e : Env} {R : Room} {s : State} {m : MethodId} {args : Array Value} {below : List Frame} {meth : Method} {c : Code} {H : Heap} {locs : List Loc} {cells slots : Nat} {Q : State → Prop}
variable {own : String} {cc : ByteArray} {nL : Nat} {ret : Option FieldType} {D : va_G} {ty : List (ClassId × FieldType)} {sz pc : Nat} {ls : Array Slot} {rest : List Value} {ws ws' : va_W} {f : Option Value} {E : String}
theorem kx_reti {v : Int32} (B : kp_B p l s m args meth c own cc nL (some .int) D ty sz) (hP : va_P D vwCl ws' H) (hS : va_S (kp_A sz) s.heap H locs) (hf : f = some (.int v)) (hdg : decode cc pc = .ok (.ireturn, 1)) :
    W p l e R s m args below meth c H locs 0 0 (kx_MQ below (kx_Q D sz f ws' E) args s) (F0 m pc ls [.int v]) := by
  obtain ⟨hx, hb, hml, ho, hlk, hr, hw, hE, hK, hz⟩ := B
  intro T hT X
  obtain ⟨t, a1, o, b1, b2, b3, L, b4, b5⟩ := W.iret (Qc := fun _ st oc t => oc = .returned (some (.int v)) ∧ va_P D vwCl ws' t.heap ∧ va_F (kp_A sz) st t) (free := kp_A sz) (v := v) hx hb hr (fun t ht hW => ⟨rfl, by rw [ht]; exact hP, hS.F ht⟩) hS.2.2 hdg hlk T hT X
  exact ⟨t, a1, o, b1, b2, Or.inl ⟨.int v, hf, b3.1, b3.2.1, b3.2.2, L, ⟨b4.1, b4.2.1, b4.2.2.mono (by omega) (by omega)⟩, b5⟩⟩
/-- throw new E("text") -/
theorem kx_throw {cls text : String} {names : List String} {ik is ic : Nat} (B : kp_B p l s m args meth c own cc nL ret D ty sz) (htr : l.stackTraces = false) (hexc : ∀ x ∈ c.exceptionTable.toList, False) (hH : kx_H s)
    (hcls : Bundle.fit cls = true) (hnames : ∀ n ∈ names, Bundle.fit n = true) (hat : ∀ w ∈ Bundle.ownAtoms own ic cls names, w ∈ kx_ws ∨ (w ∈ lw_tbl ∧ kp_w w = true))
    (k1 : Cond.classLink own ik cls ∈ lw_tbl) (k2 : Cond.initialized cls ∈ lw_tbl) (k3 : Cond.stringRef own is text ∈ lw_tbl) (hls : ls.size = nL)
    (d0 : decode cc pc = .ok (.new ik, 3)) (d3 : decode cc (pc + 3) = .ok (.dup, 1)) (d4 : decode cc (pc + 4) = .ok (.ldc is, 2)) (d6 : decode cc (pc + 6) = .ok (.invokespecial ic, 3)) (d9 : decode cc (pc + 9) = .ok (.athrow, 1))
    (hRf : names.length + 3 < R.frames) (hRl : 13 * (names.length + 1) + 43 ≤ R.locals) (hRc : 1 ≤ R.cells) (hRs : 6 ≤ R.slots) (hf : f = none) :
    W p l e R s m args below meth c s.heap [] 0 0 (kx_MQ below (kx_Q D sz f ws' cls) args s) (F0 m pc ls []) := by
  obtain ⟨hx, hb, hml, ho, hlk, hr, hw, hE, hK, hz⟩ := B
  intro T hT X
  have htr' : e.platform.stackTraces = false := (show e.platform.stackTraces = l.stackTraces by rw [X.admits.platform]).trans htr
  have h : ∀ w ∈ Bundle.ownAtoms own ic cls names, w.before args s = true := fun w hm => (hat w hm).elim (fun q => hH args w q) (fun q => hw w q.1 q.2)
  have hins : (Cond.instantiable cls 6).before args s = true := h _ (by simp [Bundle.ownAtoms])
  have hstr := hw _ k3 rfl
  obtain ⟨_, _, _, sa, -, -, -, -, -, hev⟩ := Cond.stringRef_spec ho hstr
  obtain ⟨vm₁, cX, kX, hfX, hkX, -, -, X₁, st1⟩ := X.newCold hx (own := own) (C := cls) (index := ik) (n := 6) ho (hw _ k1 rfl) hins (hw _ k2 rfl) (g := F0 m pc ls []) rfl (by rw [hb]; exact d0) (by omega) (by omega)
  generalize hT1 : (T.setVm vm₁).pushCell { cls := cX, slots := kX.instanceTypes.map defaultValue, vm := .none } = T1 at X₁ st1
  have hcat : (Value.ref T.heap.size).category = 1 := rfl
  have hcellA : T1.heap[T.heap.size]? = some (freshCell cX kX) := by rw [← hT1]; exact State.heap_pushCell_size _ _
  have d3' : decode c.code (pc + 3) = .ok (.dup, 1) := by rw [hb]; exact d3
  have d4' : decode c.code (pc + 4) = .ok (.ldc is, 2) := by rw [hb]; exact d4
  obtain ⟨U, hsteps, hrun, hend, hW, hsame, ce, hce, hO⟩ := X₁.ctorThrowS hx htr' (own := own) (cls := cls) (names := names) (ic := ic) ho hcls hnames h (fun x hx => nomatch hx) hfX hkX hcellA (by rw [hT]; exact Nat.le_refl _) (msg := .ref sa) rfl
    (g := { method := m, pc := pc + 6, locals := ls, stack := .ref sa :: .ref T.heap.size :: .ref T.heap.size :: [], locked := none }) rfl (hls.trans hml.symm) rfl rfl (rest := []) rfl
    (by rw [hb]; exact d6) (by rw [hb]; exact d9) (fun x hx => (hexc x hx).elim) hRf (by simp only [List.map_cons, List.sum_cons, List.map_nil, List.sum_nil, hcat]; omega) hlk
  refine ⟨U, ?_, .threw T.heap.size, hrun, hend, Or.inr ⟨T.heap.size, ce, hf, rfl, hce, hO.vm, hO.cls, hW, hsame.mono (by omega) (by omega)⟩⟩
  refine st1 _ ?_
  show Steps p.tables e below (T1.setTop { method := m, pc := pc + 3, locals := ls, stack := .ref T.heap.size :: [], locked := none }) _
  jvm_step X₁.here [X₁.here.top, hx, d3', Value.category]
  exact X₁.ldcString hx (own := own) (text := text) (index := is) (a := sa) ho hstr hev
    (g := { method := m, pc := pc + 4, locals := ls, stack := .ref T.heap.size :: .ref T.heap.size :: [], locked := none }) rfl d4' _ hsteps
/-- throw new NoSuchElementException("text"): its constructor's link to the one above is at another place than the others' -/
theorem kx_throwN {text : String} {ik is ic : Nat} (B : kp_B p l s m args meth c own cc nL ret D ty sz) (htr : l.stackTraces = false) (hexc : ∀ x ∈ c.exceptionTable.toList, False) (hH : kx_H s)
    (k0 : Cond.methodLink own ic (Bundle.initS kx_N) ∈ lw_tbl)
    (k1 : Cond.classLink own ik kx_N ∈ lw_tbl) (k2 : Cond.initialized kx_N ∈ lw_tbl) (k3 : Cond.stringRef own is text ∈ lw_tbl) (hls : ls.size = nL)
    (d0 : decode cc pc = .ok (.new ik, 3)) (d3 : decode cc (pc + 3) = .ok (.dup, 1)) (d4 : decode cc (pc + 4) = .ok (.ldc is, 2)) (d6 : decode cc (pc + 6) = .ok (.invokespecial ic, 3)) (d9 : decode cc (pc + 9) = .ok (.athrow, 1))
    (hRf : 5 < R.frames) (hRl : 82 ≤ R.locals) (hRc : 1 ≤ R.cells) (hRs : 6 ≤ R.slots) (hf : f = none) :
    W p l e R s m args below meth c s.heap [] 0 0 (kx_MQ below (kx_Q D sz f ws' kx_N) args s) (F0 m pc ls []) := by
  obtain ⟨hx, hb, hml, ho, hlk, hr, hw, hE, hK, hz⟩ := B
  intro T hT X
  have htr' : e.platform.stackTraces = false := (show e.platform.stackTraces = l.stackTraces by rw [X.admits.platform]).trans htr
  have h : ∀ w ∈ kx_atN, w.before args s = true := fun w hm => (kx_atN_in w hm).elim (fun q => hH args w q) (fun q => hw w q.1 q.2)
  have hins : (Cond.instantiable kx_N 6).before args s = true := h _ (by simp [kx_atN])
  have hstr := hw _ k3 rfl
  obtain ⟨_, _, _, sa, -, -, -, -, -, hev⟩ := Cond.stringRef_spec ho hstr
  obtain ⟨vm₁, cX, kX, hfX, hkX, -, -, X₁, st1⟩ := X.newCold hx (own := own) (C := kx_N) (index := ik) (n := 6) ho (hw _ k1 rfl) hins (hw _ k2 rfl) (g := F0 m pc ls []) rfl (by rw [hb]; exact d0) (by omega) (by omega)
  generalize hT1 : (T.setVm vm₁).pushCell { cls := cX, slots := kX.instanceTypes.map defaultValue, vm := .none } = T1 at X₁ st1
  have hcat : (Value.ref T.heap.size).category = 1 := rfl
  have hcellA : T1.heap[T.heap.size]? = some (freshCell cX kX) := by rw [← hT1]; exact State.heap_pushCell_size _ _
  have d3' : decode c.code (pc + 3) = .ok (.dup, 1) := by rw [hb]; exact d3
  have d4' : decode c.code (pc + 4) = .ok (.ldc is, 2) := by rw [hb]; exact d4
  obtain ⟨U, hsteps, hrun, hend, hW, hsame, ce, hce, hcv, hcl⟩ := kx_ctorN X₁ hx htr' ho (hw _ k0 rfl) h hfX hkX hcellA (by rw [hT]; exact Nat.le_refl _) (msg := .ref sa) rfl
    (g := { method := m, pc := pc + 6, locals := ls, stack := .ref sa :: .ref T.heap.size :: .ref T.heap.size :: [], locked := none }) rfl (hls.trans hml.symm) rfl rfl rfl
    (by rw [hb]; exact d6) (by rw [hb]; exact d9) (fun x hx => (hexc x hx).elim) hRf (by simp only [List.map_cons, List.sum_cons, List.map_nil, List.sum_nil, hcat]; omega) hlk
  refine ⟨U, ?_, .threw T.heap.size, hrun, hend, Or.inr ⟨T.heap.size, ce, hf, rfl, hce, hcv, hcl, hW, hsame.mono (by omega) (by omega)⟩⟩
  refine st1 _ ?_
  show Steps p.tables e below (T1.setTop { method := m, pc := pc + 3, locals := ls, stack := .ref T.heap.size :: [], locked := none }) _
  jvm_step X₁.here [X₁.here.top, hx, d3', Value.category]
  exact X₁.ldcString hx (own := own) (text := text) (index := is) (a := sa) ho hstr hev
    (g := { method := m, pc := pc + 4, locals := ls, stack := .ref T.heap.size :: .ref T.heap.size :: [], locked := none }) rfl d4' _ hsteps
/-- what was there before a throw is there behind it -/
theorem kx_kept {st t : State} {k n : Nat} (h : st.sameButNew ({ t with vm := st.vm } : State) [] k n) : st.heap.size ≤ t.heap.size ∧ ∀ q : Nat, q < st.heap.size → t.heap[q]? = st.heap[q]? := by
  obtain ⟨-, h2, -, -, -, h6⟩ := h
  refine ⟨h2, fun q hq => ?_⟩
  obtain ⟨c9, e1, e2, e3, e4⟩ := h6 q _ (Array.getElem?_eq_getElem hq)
  have hs : c9.slots = (st.heap[q]).slots := Array.ext_getElem? fun i => e4 i (fun hm => nomatch hm)
  have h9 : c9 = st.heap[q] := by
    rw [hs] at e2
    exact e2
  have e5 : t.heap[q]? = some c9 := e1
  rw [e5, h9, Array.getElem?_eq_getElem hq]
/-- an exception q flies over the frame g -/
def kx_W (p : Program) (l : Launch) (e : Env) (R : Room) (s : State) (m : MethodId) (args : Array Value) (below : List Frame) (meth : Method) (c : Code) (H : Heap) (locs : List Loc) (cells slots : Nat) (Q : State → Prop) (g : JFrame) (q : Addr) : Prop :=
  ∀ T : State, T.heap = H → Stand p l e R s m args below meth c T locs cells slots → ∃ t, Steps p.tables e below ((T.setTop g).pushFrame (.throwing q)) t ∧ Q t
variable {y : MethodName} {bytes : ByteArray} {maxL index : Nat} {rt : Option FieldType} {rm : Room} {b : Addr} {As st0 : List Value}
/-- a virtual call of a method that may throw -/
theorem kx_callV (B : kp_B p l s m args meth c own cc nL ret D ty sz) (hM : kx_M l y bytes maxL rt rm D ty sz (.ref b :: As) ws f ws' E) (hT : kp_T y bytes maxL rt As.length)
    (hl : Cond.methodLink own index y ∈ lw_tbl) (hi : Cond.instanceMethod y ∈ lw_tbl) (hs : Cond.selects y.cls y y ∈ lw_tbl) (hrc : ∃ cell : Cell, H[b]? = some cell ∧ cell.vm.isStatics = false ∧ s.vm.findClass y.cls = some cell.cls)
    (hR : rm.frames + 1 ≤ R.frames ∧ 8 + (maxL + 11) + rm.locals ≤ R.locals) (h16 : rm.cells = 1 ∧ rm.slots = 6) (hC : cells + 1 ≤ R.cells ∧ slots + 6 ≤ R.slots) (hst : st0 = As.reverse ++ .ref b :: rest) (hrt : (rest.map fun v => v.category).sum ≤ 8) (hls : ls.size = nL)
    (hP : va_P D vwCl ws H) (hS : va_S (kp_A sz) s.heap H locs) (hX : ∀ U : State, U.heap = H → s.vm.Alike U.vm → kx_H U) (hdg : decode cc pc = .ok (.invokevirtual index, 3))
    (kr : ∀ (v : Value) (H1 : Heap) (locs1 : List Loc), f = some v → va_P D vwCl ws' H1 → va_S (kp_A sz) s.heap H1 locs1 → W p l e R s m args below meth c H1 locs1 (cells + 1) (slots + 6) Q (F0 m (pc + 3) ls (v :: rest)))
    (kt : ∀ (q : Addr) (ce : Cell) (H1 : Heap), f = none → H1[q]? = some ce → ce.vm = .none → s.vm.findClass E = some ce.cls → va_P D vwCl ws H1 → va_S (kp_A sz) s.heap H1 locs → kx_W p l e R s m args below meth c H1 locs (cells + 1) (slots + 6) Q (F0 m pc ls rest) q) :
    W p l e R s m args below meth c H locs cells slots Q (F0 m pc ls st0) := by
  have hz := kp_hz B hS
  obtain ⟨hx, hb, hml, ho, hlk, hr, hw, hE, hK, -⟩ := B
  obtain ⟨t1, t2, t3, t4⟩ := hT
  obtain ⟨cellB, hcB, hoB, hclB⟩ := hrc
  intro T hTH X
  subst hst
  obtain ⟨mk, methM, hnamed, hmethM, hstM, habM⟩ := Cond.instanceMethod_spec (hw _ hi rfl)
  obtain ⟨methM', cM, hmethM', hcM, -, hlM, -, -, -, hsigM⟩ := Cond.code_spec hnamed (hw _ t1 rfl)
  cases hmethM.symm.trans hmethM'
  obtain ⟨c2, r2, m2, q1, q2, q3, q4, kP, hkP, hkPi⟩ := Cond.selects_spec (hw _ hs rfl)
  cases hclB.symm.trans q1
  cases (State.methodFound?_of_named hnamed t3).symm.trans q2
  cases hnamed.symm.trans q3
  have hselP : selectMethod e.platform s.vm cellB.cls mk = .method mk := by rw [Launch.admits_selectMethod X.admits]; exact q4
  obtain ⟨vm₁, X₁, hstep₁⟩ := X.invokevirtual hx ho (hw _ hl rfl) hnamed hmethM hstM hkP hkPi t3 (a := b) (cell := cellB) (by rw [hTH]; exact hcB)
    (fun z h => by rw [h] at hoB; cases hoB) hselP hmethM habM hkP hkPi (g := F0 m pc ls (As.reverse ++ .ref b :: rest)) rfl (argsL := As) (rest := rest) (by rw [hsigM] at t4; exact (Option.some.inj t4).symm) rfl (by rw [hb]; exact hdg)
  have hn1 : (T.setVm vm₁).methodNamed? y = some mk := X₁.named hnamed
  obtain ⟨methY, cY, hmY, hcY, -, hlY, -, -, -, -⟩ := Cond.code_spec hn1 (kp_at (a' := #[]) X₁.warmed rfl (hw _ t1 rfl))
  obtain ⟨kY, hkY, -⟩ := className_of_methodNamed hn1
  have hinitY : kY.init = .initialized := Cond.initialized_spec (findClass_of_methodNamed hn1) hkY (kp_at (a' := #[]) X₁.warmed rfl (hw _ t2 rfl))
  have hg0 : (2 * (F0 m pc ls rest).monitorRoom + ((F0 m pc ls rest).stack.map fun v => v.category).sum ≤ 8) := lv_room hrt
  have happ : (headSpec [Cond.code y bytes maxL rt] rm).appliesLoose y e.platform ((T.setVm vm₁).calling (F0 m pc ls rest) mk (Value.ref b :: As).toArray) = true :=
    Spec.appliesLoose_calling (g := F0 m pc ls rest) X₁.here (by rw [hb]; exact hdg) hn1 hkY hinitY
      (X₁.room_calling (g := F0 m pc ls rest) (R' := (headSpec [Cond.code y bytes maxL rt] rm).room) (hls.trans hml.symm) hmY hcY hR.1 (by rw [hlY]; have := hR.2; show _ + rm.locals ≤ _; omega) (by show cells + rm.cells ≤ _; omega) (by show slots + rm.slots ≤ _; omega))
      (atoms_intro fun w hm => by rw [List.mem_singleton.mp hm]; exact kp_at X₁.warmed rfl (hw _ t1 rfl))
  have hPc : va_Pc (Value.ref b :: As) (kx_P D ty sz ws) (Value.ref b :: As).toArray ((T.setVm vm₁).calling (F0 m pc ls rest) mk (Value.ref b :: As).toArray) := by
    have h1 := kp_P.at (av := Value.ref b :: As) hE hK hP hz ((T.setVm vm₁).calling (F0 m pc ls rest) mk (Value.ref b :: As).toArray) hTH X₁.warmed
    exact ⟨rfl, h1.2, hX _ hTH X₁.warmed.alike⟩
  obtain ⟨mid, hmid⟩ := X₁.here.above
  have hfr : ((T.setVm vm₁).setTop (F0 m pc ls rest)).frames = (.java (F0 m pc ls rest) :: mid) ++ below := by rw [State.frames_setTop' _ X₁.here.top, hmid]; rfl
  obtain ⟨o, s₂, hsteps, -, hend, hq⟩ := Steps.callFree hM p X.admits X.cas X.clock (acts := []) hfr happ hPc trivial
  rw [State.frames_setTop' _ X₁.here.top, X₁.tail] at hend
  have hst0 : (((T.setVm vm₁).setTop (F0 m pc ls rest)).pushFrame (.invoking mk (Value.ref b :: As).toArray)).heap = H := hTH
  rcases hq with ⟨v, hfv, rfl, hp, hF, L, hFE, hL⟩ | ⟨q, ce, hfn, rfl, hce, hcv, hcl, hW2, hsm⟩
  · obtain ⟨T', X', hW', hsame', ht⟩ := X₁.outOf (g := F0 m pc ls rest) rfl (by rw [hb]; exact hdg) hend hFE.2.1 hFE.2.2
    have hheap : T'.heap = s₂.heap := by rw [ht]; rfl
    obtain ⟨hz1, hk1⟩ := hF
    rw [hst0] at hz1 hk1
    obtain ⟨t9, a1, b1⟩ := kr v T'.heap (locs ++ L) hfv (by rw [hheap]; exact hp)
      ⟨Nat.le_trans hS.1 (by rw [hheap]; exact hz1), fun q h1 h2 => by rw [hheap, hk1 q (Nat.lt_of_lt_of_le h1 hS.1) h2]; exact hS.2.1 q h1 h2, fun q hq => by
        rcases List.mem_append.mp hq with h | h
        · exact hS.2.2 q h
        · exact hL q h⟩ T' rfl X'
    refine ⟨t9, hstep₁ _ fun acts => ?_, b1⟩
    rw [doInvoke_state]
    refine hsteps.trans ?_
    rw [ht]
    exact a1
  · obtain ⟨T', X', hW', hsame', ht⟩ := X₁.outOfThrown (g := F0 m pc ls rest) rfl hend hW2 hsm
    have hheap : T'.heap = s₂.heap := by rw [ht]; exact (Stand.throwing_heap T' _ q).symm
    obtain ⟨hz1, hk1⟩ := kx_kept hsm
    rw [hst0] at hz1 hk1
    rw [List.append_nil] at X'
    obtain ⟨t9, a1, b1⟩ := kt q ce T'.heap hfn (by rw [hheap]; exact hce) hcv (by rw [← X₁.warmed.alike.findClass]; exact hcl) (hP.kept (fun k z hk => by rw [hheap]; exact hk1 z.1 (hP k z hk).lt))
      ⟨Nat.le_trans hS.1 (by rw [hheap]; exact hz1), fun q h1 h2 => by rw [hheap, hk1 q (Nat.lt_of_lt_of_le h1 hS.1)]; exact hS.2.1 q h1 h2, hS.2.2⟩ T' rfl X'
    refine ⟨t9, hstep₁ _ fun acts => ?_, b1⟩
    rw [doInvoke_state]
    refine hsteps.trans ?_
    rw [ht]
    exact a1
/-- caught by the one row of this method's table -/
theorem kx_catch {x : ExceptionTableEntry} {q : Addr} {ce : Cell} (B : kp_B p l s m args meth c own cc nL ret D ty sz) (htab : c.exceptionTable.toList = [x]) (hcov : covers x pc = true) (h0 : x.catchType ≠ 0)
    (hl : Cond.classLink own x.catchType E ∈ lw_tbl) (hca : Cond.castable E E ∈ lw_tbl) (hcell : H[q]? = some ce) (hv : ce.vm = .none) (hcl : s.vm.findClass E = some ce.cls)
    (kk : W p l e R s m args below meth c H locs cells slots Q (F0 m x.handlerPc ls [.ref q])) : kx_W p l e R s m args below meth c H locs cells slots Q (F0 m pc ls rest) q := by
  obtain ⟨hx, hb, hml, ho, hlk, hr, hw, hE, hK, hz⟩ := B
  intro T hT X
  have hpl : e.platform.magicAccessors = ({} : Platform).magicAccessors := by rw [X.admits.platform]
  obtain ⟨c3, c4, hc3, hc4, hasg⟩ := Cond.castable_spec (hw _ hca rfl)
  cases Option.some.inj (hc3.symm.trans hcl)
  cases Option.some.inj (hc4.symm.trans hcl)
  obtain ⟨c5, hc5, hcl5⟩ := Cond.classLink_spec ho (hw _ hl rfl) e.platform hpl
  cases Option.some.inj (hc5.symm.trans hcl)
  obtain ⟨dk, _, _, kt, hd, _, _, _, _, hkt, _, hopen⟩ := hcl5.here
  have hW' : s.WarmedH (T.vm.noted m.cls x.catchType (.cls ce.cls)) := X.warmed.noted hd hopen (State.rightAt_cls hcl5)
  have X' := X.noted hW'
  obtain ⟨t, a1, b1⟩ := kk (T.setVm (T.vm.noted m.cls x.catchType (.cls ce.cls))) hT X'
  refine ⟨t, ?_, b1⟩
  have hL : T.vm.ClassLinks e.platform m.cls x.catchType ce.cls := X.warmed.classLinks hcl5
  obtain ⟨ha, ht⟩ := (resolveClass_links e.toSetting hL).op (op := VmOp.resolveClass m.cls x.catchType) rfl
  obtain ⟨kt', hkt', -⟩ := hW'.alike.2.2 _ _ hkt
  have hfit : (T.vm.noted m.cls x.catchType (.cls ce.cls)).assignable ce.cls ce.cls = true := by rw [hW'.alike.assignable]; exact hasg
  have hcov' := hcov
  simp only [covers] at hcov'
  have hfind : ∀ (Q : Handler → Pre) (E : CtlPost) (d : Bool) (acts : List Action), wp (findHandler (F0 m pc ls rest) q) Q E e d acts ((T.setTop (F0 m pc ls rest)).pushFrame (.throwing q)) ↔ Q (.found x.handlerPc) d acts (((T.setTop (F0 m pc ls rest)).pushFrame (.throwing q)).setVm (T.vm.noted m.cls x.catchType (.cls ce.cls))) := by
    intro Q E d acts
    have hvm9 : ((T.setTop (F0 m pc ls rest)).pushFrame (.throwing q)).vm = T.vm := Stand.throwing_vm T _ q
    have hhp9 : ((T.setTop (F0 m pc ls rest)).pushFrame (.throwing q)).heap[q]? = some ce := by rw [Stand.throwing_heap, hT]; exact hcell
    have hob9 : ∀ k, ce.vm ≠ .statics k := fun k h => by rw [hv] at h; cases h
    rw [W.findHandler_eq (meth := meth) (code := c) (by rw [hvm9]; exact X.method') X.code, htab]
    generalize (T.setTop (F0 m pc ls rest)).pushFrame (.throwing q) = S at hvm9 hhp9 ⊢
    rw [← hvm9] at ha ht hkt' hfit ⊢
    simp [findHandler.go, hcov', h0, ha, ht, hhp9, hob9, hkt', hfit, VmOp.dirties, VmOp.acts]
  obtain ⟨hgo, hwi⟩ := X.here.throwing (g := F0 m pc ls rest) q
  refine Steps.head hgo hwi ?_
  have hstep : (stepThrowing e ((T.setTop (F0 m pc ls rest)).pushFrame (.throwing q)) q (.java (F0 m pc ls rest) :: T.frames.tail)).Is ((((T.setTop (F0 m pc ls rest)).pushFrame (.throwing q)).setVm (T.vm.noted m.cls x.catchType (.cls ce.cls))).setFrames (.java { F0 m pc ls rest with pc := x.handlerPc, stack := [.ref q] } :: T.frames.tail)) [] := by
    simp only [stepThrowing, searchFrame, vmDo]
    generalize hr9 : Sem.go _ e false [] ((T.setTop (F0 m pc ls rest)).pushFrame (.throwing q)) = res
    obtain ⟨as, rfl, ha9⟩ := Sem.eq_ok_of hr9 (a := Handler.found x.handlerPc) (s' := ((T.setTop (F0 m pc ls rest)).pushFrame (.throwing q)).setVm (T.vm.noted m.cls x.catchType (.cls ce.cls))) (acts' := []) (by simp [hfind _ _ _ _])
    exact ⟨rfl, ha9⟩
  rw [stepThread_throwing (frames_entered X.here.top _), hstep.1]
  obtain ⟨g₀, hg⟩ := Option.isSome_iff_exists.mp X.here.top
  obtain ⟨r, hr⟩ := State.topJava?_eq_some.mp hg
  have hr' : (T.setVm (T.vm.noted m.cls x.catchType (.cls ce.cls))).frames = .java g₀ :: r := hr
  rw [State.setTop_of_frames _ hr'] at a1
  have hsv : ∀ (u : State) (vm' : Vm) (F G : List Frame), ((u.setFrames F).setVm vm').setFrames G = (u.setVm vm').setFrames G := by
    intro u vm' F G
    have h1 : (u.setFrames F).setVm vm' = (u.setVm vm').setFrames F := rfl
    rw [h1, State.setFrames_setFrames]
  rw [hr, List.tail_cons, State.pushFrame, hsv, State.setTop_of_frames _ hr, hsv]
  exact a1
end KXR
