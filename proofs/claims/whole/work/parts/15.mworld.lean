-- THE REFERENCE'S WORLD: the object, its three arrays, and whatever else Z
abbrev mw_C : Type := (Int32 × Int32 × Int32) × ((Nat → Bool) × (Nat → Int64) × (Nat → Int64)) × (Bool × Int64 × Int64) × (Bool × Int64 × Int64)
abbrev mw_G : Type := Nat × Nat × Nat × Nat × ClassId × ClassId
def bM (G : mw_G) : Nat := G.1
def bB (G : mw_G) : Nat := G.2.1
def bL (G : mw_G) : Nat := G.2.2.1
def bH (G : mw_G) : Nat := G.2.2.2.1
def bZ (G : mw_G) : ClassId := G.2.2.2.2.1
def bJ (G : mw_G) : ClassId := G.2.2.2.2.2
def mw_far : Int64 := 1125899906842624
def z_i (b : Bool) : Int32 := if b = true then 1 else 0
def z_t (v : Int32) : Bool := decide (¬ v = 0)
theorem z_i01 (b : Bool) : z_i b = 0 ∨ z_i b = 1 := by cases b <;> decide
theorem z_ite01 {p : Prop} [Decidable p] {a b : Int32} (ha : a = 0 ∨ a = 1) (hb : b = 0 ∨ b = 1) : (if p then a else b) = 0 ∨ (if p then a else b) = 1 := by
  split
  · exact ha
  · exact hb
theorem z_it {v : Int32} (h : v = 0 ∨ v = 1) : z_i (z_t v) = v := by rcases h with rfl | rfl <;> decide
def mp_thrown (c : mw_C) (v : Int32) : mw_C := ((v, c.1.2), c.2)
def mp_widthE (c : mw_C) (v : Int32) : mw_C := ((c.1.1, v, c.1.2.2), c.2)
def mp_widthM (c : mw_C) (v : Int32) : mw_C := ((c.1.1, c.1.2.1, v), c.2)
def mp_some (c : mw_C) (f : Nat → Bool) : mw_C := (c.1, (f, c.2.1.2), c.2.2)
def mp_lows (c : mw_C) (f : Nat → Int64) : mw_C := (c.1, (c.2.1.1, f, c.2.1.2.2), c.2.2)
def mp_highs (c : mw_C) (f : Nat → Int64) : mw_C := (c.1, (c.2.1.1, c.2.1.2.1, f), c.2.2)
def mp_is (c : mw_C) (v : Bool) : mw_C := (c.1, c.2.1, (v, c.2.2.1.2), c.2.2.2)
def mp_from (c : mw_C) (v : Int64) : mw_C := (c.1, c.2.1, (c.2.2.1.1, v, c.2.2.1.2.2), c.2.2.2)
def mp_to (c : mw_C) (v : Int64) : mw_C := (c.1, c.2.1, (c.2.2.1.1, c.2.2.1.2.1, v), c.2.2.2)
def mp_isPart (c : mw_C) (v : Bool) : mw_C := (c.1, c.2.1, c.2.2.1, (v, c.2.2.2.2))
def mp_partFrom (c : mw_C) (v : Int64) : mw_C := (c.1, c.2.1, c.2.2.1, (c.2.2.2.1, v, c.2.2.2.2.2))
def mp_partTo (c : mw_C) (v : Int64) : mw_C := (c.1, c.2.1, c.2.2.1, (c.2.2.2.1, c.2.2.2.2.1, v))
def mw_l (G : mw_G) (c : mw_C) : List Value := [.int c.1.1, .int c.1.2.1, .int c.1.2.2, .ref (bB G), .ref (bL G), .ref (bH G), .int (z_i c.2.2.1.1), .long c.2.2.1.2.1, .long c.2.2.1.2.2, .int (z_i c.2.2.2.1), .long c.2.2.2.2.1, .long c.2.2.2.2.2]
def mw_W (G : mw_G) (c : mw_C) (Z : va_W) : va_W :=
  (bM G, .inr (3, mw_l G c)) :: (bB G, .inl (bZ G, 8, .inl (fun j => z_i (c.2.1.1 j)))) :: (bL G, .inl (bJ G, 8, .inr (.inl c.2.1.2.1))) :: (bH G, .inl (bJ G, 8, .inr (.inl c.2.1.2.2))) :: Z
def mw_ok (ty : List (ClassId × FieldType)) (sz : Nat) (G : mw_G) (Z : va_W) : Prop := ty[1]? = some (bZ G, .boolean) ∧ ty[2]? = some (bJ G, .long) ∧ ∀ c : mw_C, va_D (kp_A sz) (mw_W G c Z)
theorem ul_M : ∀ w ∈ u_ws RX3 TX3 12, w ∈ lw_tbl ∧ kp_w w = true := by decide +kernel
theorem km_12 {j : Nat} (h : j < 12) : j = 0 ∨ j = 1 ∨ j = 2 ∨ j = 3 ∨ j = 4 ∨ j = 5 ∨ j = 6 ∨ j = 7 ∨ j = 8 ∨ j = 9 ∨ j = 10 ∨ j = 11 := by omega
section KMR
variable {p : Program} {l : Launch} {e : Env} {R : Room} {s : State} {m : MethodId} {args : Array Value} {below : List Frame} {meth : Method} {cd : Code} {H : Heap} {locs : List Loc} {cells slots : Nat} {Q : State → Prop}
variable {own : String} {cc : ByteArray} {nL : Nat} {ret : Option FieldType} {D : va_G} {ty : List (ClassId × FieldType)} {sz pc idx : Nat} {ls : Array Slot} {rest : List Value} {G : mw_G} {c M' : mw_C} {Z : va_W}
theorem km_same {j : Nat} (hj : j < 12) {s : State} : ∀ x, s.fieldFound? (TX3 j).1 (TX3 j).2.1 (TX3 j).2.2.1 = some x → s.fieldFound? RX3 (TX3 j).2.1 (TX3 j).2.2.1 = some x := by
  intro x h
  rcases km_12 hj with rfl | rfl | rfl | rfl | rfl | rfl | rfl | rfl | rfl | rfl | rfl | rfl <;> exact h
theorem km_get {j : Nat} {v : Value} (B : kp_B p l s m args meth cd own cc nL ret D ty sz) (hP : va_P D vwCl (mw_W G c Z) H) (hv : (mw_l G c)[j]? = some v) (hj : j < 12)
    (hl : Cond.fieldLink own idx RX3 (TX3 j).2.1 (TX3 j).2.2.1 ∈ lw_tbl) (hdg : decode cc pc = .ok (.getfield idx, 3))
    (kk : W p l e R s m args below meth cd H locs cells slots Q (F0 m (pc + 3) ls (v :: rest))) : W p l e R s m args below meth cd H locs cells slots Q (F0 m pc ls (.ref (bM G) :: rest)) := by
  obtain ⟨hx, hb, hml, ho, hlk, hr, hw, hE, hK, hz⟩ := B
  exact va_get (D := D) (ci := 3) (C := RX3) (T := TX3) (N := 12) (ref := RX3) hx hb (Ts := u_ws RX3 TX3 12) (fun w h => hw w (ul_M w h).1 (ul_M w h).2) (fun _ h => h) ho hK hP 0 rfl rfl j hj (hw _ hl rfl) (km_same hj) hv hdg kk
theorem km_put {j : Nat} {v : Value} {t : FieldType} (B : kp_B p l s m args meth cd own cc nL ret D ty sz) (hG : mw_ok ty sz G Z) (hP : va_P D vwCl (mw_W G c Z) H) (hS : va_S (kp_A sz) s.heap H locs) (hj : j < 12)
    (hnf : (TX3 j).2.2.2 = false) (hty : parseFieldDescriptor (TX3 j).2.2.1 = some t) (hn : narrow t v = v) (hf : fits t v = true) (hM : ((mw_W G c Z).set 0 (bM G, .inr (3, (mw_l G c).set j v))) = mw_W G M' Z)
    (hl : Cond.fieldLink own idx RX3 (TX3 j).2.1 (TX3 j).2.2.1 ∈ lw_tbl) (hdg : decode cc pc = .ok (.putfield idx, 3))
    (kk : ∀ (H1 : Heap) (locs1 : List Loc), va_P D vwCl (mw_W G M' Z) H1 → va_S (kp_A sz) s.heap H1 locs1 → W p l e R s m args below meth cd H1 locs1 cells slots Q (F0 m (pc + 3) ls rest)) : W p l e R s m args below meth cd H locs cells slots Q (F0 m pc ls (v :: .ref (bM G) :: rest)) := by
  obtain ⟨hx, hb, hml, ho, hlk, hr, hw, hE, hK, hz⟩ := B
  exact va_put (D := D) (ci := 3) (v := v) (ty := t) (C := RX3) (T := TX3) (N := 12) (ref := RX3) hx hb (Ts := u_ws RX3 TX3 12) (fun w h => hw w (ul_M w h).1 (ul_M w h).2) (fun _ h => h) tyX3 tyX3_ok nmX3 ho hK hP (hG.2.2 c) hS 0 rfl rfl j hj (hw _ hl rfl) (km_same hj) hnf hty hn hf hj hdg (fun H1 locs1 hP1 hD1 hS1 => kk H1 locs1 (hM ▸ hP1) hS1)
theorem km_putZ {j : Nat} {v : Int32} (B : kp_B p l s m args meth cd own cc nL ret D ty sz) (hG : mw_ok ty sz G Z) (hP : va_P D vwCl (mw_W G c Z) H) (hS : va_S (kp_A sz) s.heap H locs) (hj : j < 12)
    (hnf : (TX3 j).2.2.2 = false) (hty : parseFieldDescriptor (TX3 j).2.2.1 = some .boolean) (h01 : v = 0 ∨ v = 1) (hM : ((mw_W G c Z).set 0 (bM G, .inr (3, (mw_l G c).set j (.int (z_i (z_t v)))))) = mw_W G M' Z)
    (hl : Cond.fieldLink own idx RX3 (TX3 j).2.1 (TX3 j).2.2.1 ∈ lw_tbl) (hdg : decode cc pc = .ok (.putfield idx, 3))
    (kk : ∀ (H1 : Heap) (locs1 : List Loc), va_P D vwCl (mw_W G M' Z) H1 → va_S (kp_A sz) s.heap H1 locs1 → W p l e R s m args below meth cd H1 locs1 cells slots Q (F0 m (pc + 3) ls rest)) : W p l e R s m args below meth cd H locs cells slots Q (F0 m pc ls (.int v :: .ref (bM G) :: rest)) := by
  rw [z_it h01] at hM
  exact km_put (t := .boolean) B hG hP hS hj hnf hty (by rcases h01 with rfl | rfl <;> rfl) (by rcases h01 with rfl | rfl <;> rfl) hM hl hdg kk
theorem km_put0 {v : Int32} (B : kp_B p l s m args meth cd own cc nL ret D ty sz) (hG : mw_ok ty sz G Z) (hP : va_P D vwCl (mw_W G c Z) H) (hS : va_S (kp_A sz) s.heap H locs) (hM : mp_thrown c v = M')
    (hl : Cond.fieldLink own idx RX3 (TX3 0).2.1 (TX3 0).2.2.1 ∈ lw_tbl) (hdg : decode cc pc = .ok (.putfield idx, 3))
    (kk : ∀ (H1 : Heap) (locs1 : List Loc), va_P D vwCl (mw_W G M' Z) H1 → va_S (kp_A sz) s.heap H1 locs1 → W p l e R s m args below meth cd H1 locs1 cells slots Q (F0 m (pc + 3) ls rest)) : W p l e R s m args below meth cd H locs cells slots Q (F0 m pc ls (.int v :: .ref (bM G) :: rest)) :=
  km_put (t := .int) B hG hP hS (by decide) rfl (by decide +kernel) rfl rfl (hM ▸ rfl) hl hdg kk
theorem km_put1 {v : Int32} (B : kp_B p l s m args meth cd own cc nL ret D ty sz) (hG : mw_ok ty sz G Z) (hP : va_P D vwCl (mw_W G c Z) H) (hS : va_S (kp_A sz) s.heap H locs) (hM : mp_widthE c v = M')
    (hl : Cond.fieldLink own idx RX3 (TX3 1).2.1 (TX3 1).2.2.1 ∈ lw_tbl) (hdg : decode cc pc = .ok (.putfield idx, 3))
    (kk : ∀ (H1 : Heap) (locs1 : List Loc), va_P D vwCl (mw_W G M' Z) H1 → va_S (kp_A sz) s.heap H1 locs1 → W p l e R s m args below meth cd H1 locs1 cells slots Q (F0 m (pc + 3) ls rest)) : W p l e R s m args below meth cd H locs cells slots Q (F0 m pc ls (.int v :: .ref (bM G) :: rest)) :=
  km_put (t := .int) B hG hP hS (by decide) rfl (by decide +kernel) rfl rfl (hM ▸ rfl) hl hdg kk
theorem km_put2 {v : Int32} (B : kp_B p l s m args meth cd own cc nL ret D ty sz) (hG : mw_ok ty sz G Z) (hP : va_P D vwCl (mw_W G c Z) H) (hS : va_S (kp_A sz) s.heap H locs) (hM : mp_widthM c v = M')
    (hl : Cond.fieldLink own idx RX3 (TX3 2).2.1 (TX3 2).2.2.1 ∈ lw_tbl) (hdg : decode cc pc = .ok (.putfield idx, 3))
    (kk : ∀ (H1 : Heap) (locs1 : List Loc), va_P D vwCl (mw_W G M' Z) H1 → va_S (kp_A sz) s.heap H1 locs1 → W p l e R s m args below meth cd H1 locs1 cells slots Q (F0 m (pc + 3) ls rest)) : W p l e R s m args below meth cd H locs cells slots Q (F0 m pc ls (.int v :: .ref (bM G) :: rest)) :=
  km_put (t := .int) B hG hP hS (by decide) rfl (by decide +kernel) rfl rfl (hM ▸ rfl) hl hdg kk
theorem km_put6 {v : Int32} (B : kp_B p l s m args meth cd own cc nL ret D ty sz) (hG : mw_ok ty sz G Z) (hP : va_P D vwCl (mw_W G c Z) H) (hS : va_S (kp_A sz) s.heap H locs) (h01 : v = 0 ∨ v = 1) (hM : mp_is c (z_t v) = M')
    (hl : Cond.fieldLink own idx RX3 (TX3 6).2.1 (TX3 6).2.2.1 ∈ lw_tbl) (hdg : decode cc pc = .ok (.putfield idx, 3))
    (kk : ∀ (H1 : Heap) (locs1 : List Loc), va_P D vwCl (mw_W G M' Z) H1 → va_S (kp_A sz) s.heap H1 locs1 → W p l e R s m args below meth cd H1 locs1 cells slots Q (F0 m (pc + 3) ls rest)) : W p l e R s m args below meth cd H locs cells slots Q (F0 m pc ls (.int v :: .ref (bM G) :: rest)) :=
  km_putZ B hG hP hS (by decide) rfl (by decide +kernel) h01 (hM ▸ rfl) hl hdg kk
theorem km_put7 {v : Int64} (B : kp_B p l s m args meth cd own cc nL ret D ty sz) (hG : mw_ok ty sz G Z) (hP : va_P D vwCl (mw_W G c Z) H) (hS : va_S (kp_A sz) s.heap H locs) (hM : mp_from c v = M')
    (hl : Cond.fieldLink own idx RX3 (TX3 7).2.1 (TX3 7).2.2.1 ∈ lw_tbl) (hdg : decode cc pc = .ok (.putfield idx, 3))
    (kk : ∀ (H1 : Heap) (locs1 : List Loc), va_P D vwCl (mw_W G M' Z) H1 → va_S (kp_A sz) s.heap H1 locs1 → W p l e R s m args below meth cd H1 locs1 cells slots Q (F0 m (pc + 3) ls rest)) : W p l e R s m args below meth cd H locs cells slots Q (F0 m pc ls (.long v :: .ref (bM G) :: rest)) :=
  km_put (t := .long) B hG hP hS (by decide) rfl (by decide +kernel) rfl rfl (hM ▸ rfl) hl hdg kk
theorem km_put8 {v : Int64} (B : kp_B p l s m args meth cd own cc nL ret D ty sz) (hG : mw_ok ty sz G Z) (hP : va_P D vwCl (mw_W G c Z) H) (hS : va_S (kp_A sz) s.heap H locs) (hM : mp_to c v = M')
    (hl : Cond.fieldLink own idx RX3 (TX3 8).2.1 (TX3 8).2.2.1 ∈ lw_tbl) (hdg : decode cc pc = .ok (.putfield idx, 3))
    (kk : ∀ (H1 : Heap) (locs1 : List Loc), va_P D vwCl (mw_W G M' Z) H1 → va_S (kp_A sz) s.heap H1 locs1 → W p l e R s m args below meth cd H1 locs1 cells slots Q (F0 m (pc + 3) ls rest)) : W p l e R s m args below meth cd H locs cells slots Q (F0 m pc ls (.long v :: .ref (bM G) :: rest)) :=
  km_put (t := .long) B hG hP hS (by decide) rfl (by decide +kernel) rfl rfl (hM ▸ rfl) hl hdg kk
theorem km_put9 {v : Int32} (B : kp_B p l s m args meth cd own cc nL ret D ty sz) (hG : mw_ok ty sz G Z) (hP : va_P D vwCl (mw_W G c Z) H) (hS : va_S (kp_A sz) s.heap H locs) (h01 : v = 0 ∨ v = 1) (hM : mp_isPart c (z_t v) = M')
    (hl : Cond.fieldLink own idx RX3 (TX3 9).2.1 (TX3 9).2.2.1 ∈ lw_tbl) (hdg : decode cc pc = .ok (.putfield idx, 3))
    (kk : ∀ (H1 : Heap) (locs1 : List Loc), va_P D vwCl (mw_W G M' Z) H1 → va_S (kp_A sz) s.heap H1 locs1 → W p l e R s m args below meth cd H1 locs1 cells slots Q (F0 m (pc + 3) ls rest)) : W p l e R s m args below meth cd H locs cells slots Q (F0 m pc ls (.int v :: .ref (bM G) :: rest)) :=
  km_putZ B hG hP hS (by decide) rfl (by decide +kernel) h01 (hM ▸ rfl) hl hdg kk
theorem km_put10 {v : Int64} (B : kp_B p l s m args meth cd own cc nL ret D ty sz) (hG : mw_ok ty sz G Z) (hP : va_P D vwCl (mw_W G c Z) H) (hS : va_S (kp_A sz) s.heap H locs) (hM : mp_partFrom c v = M')
    (hl : Cond.fieldLink own idx RX3 (TX3 10).2.1 (TX3 10).2.2.1 ∈ lw_tbl) (hdg : decode cc pc = .ok (.putfield idx, 3))
    (kk : ∀ (H1 : Heap) (locs1 : List Loc), va_P D vwCl (mw_W G M' Z) H1 → va_S (kp_A sz) s.heap H1 locs1 → W p l e R s m args below meth cd H1 locs1 cells slots Q (F0 m (pc + 3) ls rest)) : W p l e R s m args below meth cd H locs cells slots Q (F0 m pc ls (.long v :: .ref (bM G) :: rest)) :=
  km_put (t := .long) B hG hP hS (by decide) rfl (by decide +kernel) rfl rfl (hM ▸ rfl) hl hdg kk
theorem km_put11 {v : Int64} (B : kp_B p l s m args meth cd own cc nL ret D ty sz) (hG : mw_ok ty sz G Z) (hP : va_P D vwCl (mw_W G c Z) H) (hS : va_S (kp_A sz) s.heap H locs) (hM : mp_partTo c v = M')
    (hl : Cond.fieldLink own idx RX3 (TX3 11).2.1 (TX3 11).2.2.1 ∈ lw_tbl) (hdg : decode cc pc = .ok (.putfield idx, 3))
    (kk : ∀ (H1 : Heap) (locs1 : List Loc), va_P D vwCl (mw_W G M' Z) H1 → va_S (kp_A sz) s.heap H1 locs1 → W p l e R s m args below meth cd H1 locs1 cells slots Q (F0 m (pc + 3) ls rest)) : W p l e R s m args below meth cd H locs cells slots Q (F0 m pc ls (.long v :: .ref (bM G) :: rest)) :=
  km_put (t := .long) B hG hP hS (by decide) rfl (by decide +kernel) rfl rfl (hM ▸ rfl) hl hdg kk
theorem km_zald {i v : Int32} (B : kp_B p l s m args meth cd own cc nL ret D ty sz) (hG : mw_ok ty sz G Z) (hP : va_P D vwCl (mw_W G c Z) H) (hi : vp_in i 8) (hv : z_i (c.2.1.1 i.toNatClampNeg) = v) (hdg : decode cc pc = .ok (.baload, 1))
    (kk : W p l e R s m args below meth cd H locs cells slots Q (F0 m (pc + 1) ls (.int v :: rest))) : W p l e R s m args below meth cd H locs cells slots Q (F0 m pc ls (.int i :: .ref (bB G) :: rest)) := by
  obtain ⟨hx, hb, hml, ho, hlk, hr, hw, hE, hK, hz⟩ := B
  subst hv
  exact va_zald (D := D) hx hb hK hP 1 1 rfl hG.1 hi hdg kk
theorem km_lald {i : Int32} {v : Int64} (B : kp_B p l s m args meth cd own cc nL ret D ty sz) (hG : mw_ok ty sz G Z) (hP : va_P D vwCl (mw_W G c Z) H) (hi : vp_in i 8) (hv : c.2.1.2.1 i.toNatClampNeg = v) (hdg : decode cc pc = .ok (.laload, 1))
    (kk : W p l e R s m args below meth cd H locs cells slots Q (F0 m (pc + 1) ls (.long v :: rest))) : W p l e R s m args below meth cd H locs cells slots Q (F0 m pc ls (.int i :: .ref (bL G) :: rest)) := by
  obtain ⟨hx, hb, hml, ho, hlk, hr, hw, hE, hK, hz⟩ := B
  subst hv
  exact va_lald (D := D) hx hb hK hP 2 2 rfl hG.2.1 hi hdg kk
theorem km_hald {i : Int32} {v : Int64} (B : kp_B p l s m args meth cd own cc nL ret D ty sz) (hG : mw_ok ty sz G Z) (hP : va_P D vwCl (mw_W G c Z) H) (hi : vp_in i 8) (hv : c.2.1.2.2 i.toNatClampNeg = v) (hdg : decode cc pc = .ok (.laload, 1))
    (kk : W p l e R s m args below meth cd H locs cells slots Q (F0 m (pc + 1) ls (.long v :: rest))) : W p l e R s m args below meth cd H locs cells slots Q (F0 m pc ls (.int i :: .ref (bH G) :: rest)) := by
  obtain ⟨hx, hb, hml, ho, hlk, hr, hw, hE, hK, hz⟩ := B
  subst hv
  exact va_lald (D := D) hx hb hK hP 3 2 rfl hG.2.1 hi hdg kk
theorem km_zast {i v : Int32} (B : kp_B p l s m args meth cd own cc nL ret D ty sz) (hG : mw_ok ty sz G Z) (hP : va_P D vwCl (mw_W G c Z) H) (hS : va_S (kp_A sz) s.heap H locs) (hi : vp_in i 8) (h01 : v = 0 ∨ v = 1)
    (hM : mp_some c (va_up c.2.1.1 i.toNatClampNeg (z_t v)) = M') (hdg : decode cc pc = .ok (.bastore, 1))
    (kk : ∀ (H1 : Heap) (locs1 : List Loc), va_P D vwCl (mw_W G M' Z) H1 → va_S (kp_A sz) s.heap H1 locs1 → W p l e R s m args below meth cd H1 locs1 cells slots Q (F0 m (pc + 1) ls rest)) : W p l e R s m args below meth cd H locs cells slots Q (F0 m pc ls (.int v :: .int i :: .ref (bB G) :: rest)) := by
  obtain ⟨hx, hb, hml, ho, hlk, hr, hw, hE, hK, hz⟩ := B
  subst hM
  refine va_zast (D := D) hx hb hK hP (hG.2.2 c) hS 1 1 rfl hG.1 hi hdg (fun H1 locs1 hP1 hD1 hS1 => kk H1 locs1 ?_ hS1)
  have hnar : vp_nar .boolean v = z_i (z_t v) := by rcases h01 with rfl | rfl <;> decide
  have hf : upd (fun j => z_i (c.2.1.1 j)) i.toNatClampNeg (vp_nar .boolean v) = fun j => z_i (va_up c.2.1.1 i.toNatClampNeg (z_t v) j) := by
    funext j
    unfold upd va_up
    rw [hnar]
    split <;> rfl
  rw [hf] at hP1
  exact hP1
theorem km_last {i : Int32} {v : Int64} (B : kp_B p l s m args meth cd own cc nL ret D ty sz) (hG : mw_ok ty sz G Z) (hP : va_P D vwCl (mw_W G c Z) H) (hS : va_S (kp_A sz) s.heap H locs) (hi : vp_in i 8)
    (hM : mp_lows c (va_up c.2.1.2.1 i.toNatClampNeg v) = M') (hdg : decode cc pc = .ok (.lastore, 1))
    (kk : ∀ (H1 : Heap) (locs1 : List Loc), va_P D vwCl (mw_W G M' Z) H1 → va_S (kp_A sz) s.heap H1 locs1 → W p l e R s m args below meth cd H1 locs1 cells slots Q (F0 m (pc + 1) ls rest)) : W p l e R s m args below meth cd H locs cells slots Q (F0 m pc ls (.long v :: .int i :: .ref (bL G) :: rest)) := by
  obtain ⟨hx, hb, hml, ho, hlk, hr, hw, hE, hK, hz⟩ := B
  subst hM
  exact va_last (D := D) hx hb hK hP (hG.2.2 c) hS 2 2 rfl hG.2.1 hi hdg (fun H1 locs1 hP1 hD1 hS1 => kk H1 locs1 hP1 hS1)
theorem km_hast {i : Int32} {v : Int64} (B : kp_B p l s m args meth cd own cc nL ret D ty sz) (hG : mw_ok ty sz G Z) (hP : va_P D vwCl (mw_W G c Z) H) (hS : va_S (kp_A sz) s.heap H locs) (hi : vp_in i 8)
    (hM : mp_highs c (va_up c.2.1.2.2 i.toNatClampNeg v) = M') (hdg : decode cc pc = .ok (.lastore, 1))
    (kk : ∀ (H1 : Heap) (locs1 : List Loc), va_P D vwCl (mw_W G M' Z) H1 → va_S (kp_A sz) s.heap H1 locs1 → W p l e R s m args below meth cd H1 locs1 cells slots Q (F0 m (pc + 1) ls rest)) : W p l e R s m args below meth cd H locs cells slots Q (F0 m pc ls (.long v :: .int i :: .ref (bH G) :: rest)) := by
  obtain ⟨hx, hb, hml, ho, hlk, hr, hw, hE, hK, hz⟩ := B
  subst hM
  exact va_last (D := D) hx hb hK hP (hG.2.2 c) hS 3 2 rfl hG.2.1 hi hdg (fun H1 locs1 hP1 hD1 hS1 => kk H1 locs1 hP1 hS1)
theorem km_rc (B : kp_B p l s m args meth cd own cc nL ret D ty sz) (hP : va_P D vwCl (mw_W G c Z) H) : ∃ cell : Cell, H[bM G]? = some cell ∧ cell.vm.isStatics = false ∧ s.vm.findClass RX3 = some cell.cls := va_recv B.2.2.2.2.2.2.2.2.1 hP (ci := 3) (q0 := 0) (q := (RX3, TX3, 12)) rfl rfl
end KMR
