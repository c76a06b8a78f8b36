-- THE CLASS'S OWN WORLD: the desk, its shape, its array, ten spans (0..7 the places, 8 made, 9 second), and whatever else Z
abbrev cw_C : Type := Int32 × Int32 × (Nat → Int64 × Int64)
abbrev cw_G : Type := Nat × Nat × Nat × ClassId × (Nat → Nat)
def aD (G : cw_G) : Nat := G.1
def aS (G : cw_G) : Nat := G.2.1
def aP (G : cw_G) : Nat := G.2.2.1
def aA (G : cw_G) : ClassId := G.2.2.2.1
def aN (G : cw_G) (k : Nat) : Nat := G.2.2.2.2 k
def cw_inf : Int64 := 1152921504606846976
def cw_s0 (c : cw_C) (k : Nat) (v : Int64) : cw_C := (c.1, c.2.1, va_up c.2.2 k (v, (c.2.2 k).2))
def cw_s1 (c : cw_C) (k : Nat) (v : Int64) : cw_C := (c.1, c.2.1, va_up c.2.2 k ((c.2.2 k).1, v))
def cw_e0 (c : cw_C) (v : Int32) : cw_C := (v, c.2)
def cw_e1 (c : cw_C) (v : Int32) : cw_C := (c.1, v, c.2.2)
def cw_n (G : cw_G) (c : cw_C) (k : Nat) : Nat × va_E := (aN G k, .inr (1, [.long (c.2.2 k).1, .long (c.2.2 k).2]))
def cw_W (G : cw_G) (c : cw_C) (Z : va_W) : va_W :=
  (aD G, .inr (2, [.ref (aS G), .ref (aP G), .ref (aN G 8), .ref (aN G 9)])) :: (aS G, .inr (0, [.int c.1, .int c.2.1])) :: (aP G, .inl (aA G, 8, .inr (.inr (.inr (.inr (fun i => some (aN G i)))))))
    :: cw_n G c 0 :: cw_n G c 1 :: cw_n G c 2 :: cw_n G c 3 :: cw_n G c 4 :: cw_n G c 5 :: cw_n G c 6 :: cw_n G c 7 :: cw_n G c 8 :: cw_n G c 9 :: Z
def cw_ok (ty : List (ClassId × FieldType)) (sz : Nat) (G : cw_G) (Z : va_W) : Prop := ty[0]? = some (aA G, .object RX1) ∧ ∀ c : cw_C, va_D (kp_A sz) (cw_W G c Z)
theorem cw_10 {k : Nat} (hk : k < 10) : k = 0 ∨ k = 1 ∨ k = 2 ∨ k = 3 ∨ k = 4 ∨ k = 5 ∨ k = 6 ∨ k = 7 ∨ k = 8 ∨ k = 9 := by omega
theorem cw_at {G : cw_G} {c : cw_C} {Z : va_W} {k : Nat} (hk : k < 10) : (cw_W G c Z)[3 + k]? = some (aN G k, .inr (1, [.long (c.2.2 k).1, .long (c.2.2 k).2])) := by
  rcases cw_10 hk with rfl | rfl | rfl | rfl | rfl | rfl | rfl | rfl | rfl | rfl <;> rfl
theorem cw_put0 {G : cw_G} {c : cw_C} {Z : va_W} {k : Nat} (hk : k < 10) (v : Int64) : (cw_W G c Z).set (3 + k) (aN G k, .inr (1, [.long v, .long (c.2.2 k).2])) = cw_W G (cw_s0 c k v) Z := by
  rcases cw_10 hk with rfl | rfl | rfl | rfl | rfl | rfl | rfl | rfl | rfl | rfl <;> rfl
theorem cw_put1 {G : cw_G} {c : cw_C} {Z : va_W} {k : Nat} (hk : k < 10) (v : Int64) : (cw_W G c Z).set (3 + k) (aN G k, .inr (1, [.long (c.2.2 k).1, .long v])) = cw_W G (cw_s1 c k v) Z := by
  rcases cw_10 hk with rfl | rfl | rfl | rfl | rfl | rfl | rfl | rfl | rfl | rfl <;> rfl
theorem ul_D : ∀ w ∈ u_ws RX2 TX2 4, w ∈ lw_tbl ∧ kp_w w = true := by decide +kernel
theorem ul_S : ∀ w ∈ u_ws RX0 TX0 2, w ∈ lw_tbl ∧ kp_w w = true := by decide +kernel
theorem ul_N : ∀ w ∈ u_ws RX1 TX1 2, w ∈ lw_tbl ∧ kp_w w = true := by decide +kernel
section KCR
variable {p : Program} {l : Launch} {e : Env} {R : Room} {s : State} {m : MethodId} {args : Array Value} {below : List Frame} {meth : Method} {cd : Code} {H : Heap} {locs : List Loc} {cells slots : Nat} {Q : State → Prop}
variable {own : String} {cc : ByteArray} {nL : Nat} {ret : Option FieldType} {D : va_G} {ty : List (ClassId × FieldType)} {sz pc idx : Nat} {ls : Array Slot} {rest : List Value} {G : cw_G} {c : cw_C} {Z : va_W}
theorem kc_getD {j : Nat} {v : Value} (B : kp_B p l s m args meth cd own cc nL ret D ty sz) (hP : va_P D vwCl (cw_W G c Z) H) (hv : [Value.ref (aS G), .ref (aP G), .ref (aN G 8), .ref (aN G 9)][j]? = some v) (hj : j < 4)
    (hl : Cond.fieldLink own idx RX2 (TX2 j).2.1 (TX2 j).2.2.1 ∈ lw_tbl) (hdg : decode cc pc = .ok (.getfield idx, 3))
    (kk : W p l e R s m args below meth cd H locs cells slots Q (F0 m (pc + 3) ls (v :: rest))) : W p l e R s m args below meth cd H locs cells slots Q (F0 m pc ls (.ref (aD G) :: rest)) := by
  obtain ⟨hx, hb, hml, ho, hlk, hr, hw, hE, hK, hz⟩ := B
  exact va_get (D := D) (ci := 2) (C := RX2) (T := TX2) (N := 4) (ref := RX2) hx hb (Ts := u_ws RX2 TX2 4) (fun w h => hw w (ul_D w h).1 (ul_D w h).2) (fun _ h => h) ho hK hP 0 rfl rfl j hj (hw _ hl rfl) (fun x h => by rcases (show j = 0 ∨ j = 1 ∨ j = 2 ∨ j = 3 by omega) with rfl | rfl | rfl | rfl <;> exact h) hv hdg kk
theorem kc_getS {j : Nat} {v : Value} (B : kp_B p l s m args meth cd own cc nL ret D ty sz) (hP : va_P D vwCl (cw_W G c Z) H) (hv : [Value.int c.1, .int c.2.1][j]? = some v) (hj : j < 2)
    (hl : Cond.fieldLink own idx RX0 (TX0 j).2.1 (TX0 j).2.2.1 ∈ lw_tbl) (hdg : decode cc pc = .ok (.getfield idx, 3))
    (kk : W p l e R s m args below meth cd H locs cells slots Q (F0 m (pc + 3) ls (v :: rest))) : W p l e R s m args below meth cd H locs cells slots Q (F0 m pc ls (.ref (aS G) :: rest)) := by
  obtain ⟨hx, hb, hml, ho, hlk, hr, hw, hE, hK, hz⟩ := B
  exact va_get (D := D) (ci := 0) (C := RX0) (T := TX0) (N := 2) (ref := RX0) hx hb (Ts := u_ws RX0 TX0 2) (fun w h => hw w (ul_S w h).1 (ul_S w h).2) (fun _ h => h) ho hK hP 1 rfl rfl j hj (hw _ hl rfl) (fun x h => by rcases (show j = 0 ∨ j = 1 by omega) with rfl | rfl <;> exact h) hv hdg kk
theorem kc_getN {j k : Nat} {v : Value} (B : kp_B p l s m args meth cd own cc nL ret D ty sz) (hP : va_P D vwCl (cw_W G c Z) H) (hk : k < 10) (hv : [Value.long (c.2.2 k).1, .long (c.2.2 k).2][j]? = some v) (hj : j < 2)
    (hl : Cond.fieldLink own idx RX1 (TX1 j).2.1 (TX1 j).2.2.1 ∈ lw_tbl) (hdg : decode cc pc = .ok (.getfield idx, 3))
    (kk : W p l e R s m args below meth cd H locs cells slots Q (F0 m (pc + 3) ls (v :: rest))) : W p l e R s m args below meth cd H locs cells slots Q (F0 m pc ls (.ref (aN G k) :: rest)) := by
  obtain ⟨hx, hb, hml, ho, hlk, hr, hw, hE, hK, hz⟩ := B
  exact va_get (D := D) (ci := 1) (C := RX1) (T := TX1) (N := 2) (ref := RX1) hx hb (Ts := u_ws RX1 TX1 2) (fun w h => hw w (ul_N w h).1 (ul_N w h).2) (fun _ h => h) ho hK hP (3 + k) (cw_at hk) rfl j hj (hw _ hl rfl) (fun x h => by rcases (show j = 0 ∨ j = 1 by omega) with rfl | rfl <;> exact h) hv hdg kk
theorem kc_getNX {j k : Nat} {v : Value} {host : String} (B : kp_B p l s m args meth cd own cc nL ret D ty sz) (hP : va_P D vwCl (cw_W G c Z) H) (hk : k < 10) (hv : [Value.long (c.2.2 k).1, .long (c.2.2 k).2][j]? = some v) (hj : j < 2)
    (hl : Cond.fieldLinkNest own idx RX1 (TX1 j).2.1 (TX1 j).2.2.1 host ∈ lw_tbl) (hdg : decode cc pc = .ok (.getfield idx, 3))
    (kk : W p l e R s m args below meth cd H locs cells slots Q (F0 m (pc + 3) ls (v :: rest))) : W p l e R s m args below meth cd H locs cells slots Q (F0 m pc ls (.ref (aN G k) :: rest)) := by
  obtain ⟨hx, hb, hml, ho, hlk, hr, hw, hE, hK, hz⟩ := B
  exact va_getN (D := D) (ci := 1) (C := RX1) (T := TX1) (N := 2) (ref := RX1) hx hb (Ts := u_ws RX1 TX1 2) (fun w h => hw w (ul_N w h).1 (ul_N w h).2) (fun _ h => h) ho hK hP (3 + k) (cw_at hk) rfl j hj (hw _ hl rfl) (fun x h => by rcases (show j = 0 ∨ j = 1 by omega) with rfl | rfl <;> exact h) hv hdg kk
theorem kc_putN0 {k : Nat} {v : Int64} (B : kp_B p l s m args meth cd own cc nL ret D ty sz) (hG : cw_ok ty sz G Z) (hP : va_P D vwCl (cw_W G c Z) H) (hS : va_S (kp_A sz) s.heap H locs) (hk : k < 10)
    (hl : Cond.fieldLink own idx RX1 (TX1 0).2.1 (TX1 0).2.2.1 ∈ lw_tbl) (hdg : decode cc pc = .ok (.putfield idx, 3))
    (kk : ∀ (H1 : Heap) (locs1 : List Loc), va_P D vwCl (cw_W G (cw_s0 c k v) Z) H1 → va_S (kp_A sz) s.heap H1 locs1 → W p l e R s m args below meth cd H1 locs1 cells slots Q (F0 m (pc + 3) ls rest)) : W p l e R s m args below meth cd H locs cells slots Q (F0 m pc ls (.long v :: .ref (aN G k) :: rest)) := by
  obtain ⟨hx, hb, hml, ho, hlk, hr, hw, hE, hK, hz⟩ := B
  refine va_put (D := D) (ci := 1) (v := .long v) (ty := .long) (C := RX1) (T := TX1) (N := 2) (ref := RX1) hx hb (Ts := u_ws RX1 TX1 2) (fun w h => hw w (ul_N w h).1 (ul_N w h).2) (fun _ h => h) tyX1 tyX1_ok nmX1 ho hK hP (hG.2 c) hS (3 + k) (cw_at hk) rfl 0 (by decide) (hw _ hl rfl) (fun _ h9 => h9) rfl (by decide +kernel) rfl rfl (Nat.le_of_ble_eq_true rfl) hdg (fun H locs hP hD hS => ?_)
  exact kk H locs (by rw [← cw_put0 hk]; exact hP) hS
theorem kc_putN1 {k : Nat} {v : Int64} (B : kp_B p l s m args meth cd own cc nL ret D ty sz) (hG : cw_ok ty sz G Z) (hP : va_P D vwCl (cw_W G c Z) H) (hS : va_S (kp_A sz) s.heap H locs) (hk : k < 10)
    (hl : Cond.fieldLink own idx RX1 (TX1 1).2.1 (TX1 1).2.2.1 ∈ lw_tbl) (hdg : decode cc pc = .ok (.putfield idx, 3))
    (kk : ∀ (H1 : Heap) (locs1 : List Loc), va_P D vwCl (cw_W G (cw_s1 c k v) Z) H1 → va_S (kp_A sz) s.heap H1 locs1 → W p l e R s m args below meth cd H1 locs1 cells slots Q (F0 m (pc + 3) ls rest)) : W p l e R s m args below meth cd H locs cells slots Q (F0 m pc ls (.long v :: .ref (aN G k) :: rest)) := by
  obtain ⟨hx, hb, hml, ho, hlk, hr, hw, hE, hK, hz⟩ := B
  refine va_put (D := D) (ci := 1) (v := .long v) (ty := .long) (C := RX1) (T := TX1) (N := 2) (ref := RX1) hx hb (Ts := u_ws RX1 TX1 2) (fun w h => hw w (ul_N w h).1 (ul_N w h).2) (fun _ h => h) tyX1 tyX1_ok nmX1 ho hK hP (hG.2 c) hS (3 + k) (cw_at hk) rfl 1 (by decide) (hw _ hl rfl) (fun _ h9 => h9) rfl (by decide +kernel) rfl rfl (Nat.le_of_ble_eq_true rfl) hdg (fun H locs hP hD hS => ?_)
  exact kk H locs (by rw [← cw_put1 hk]; exact hP) hS
theorem kc_putSX0 {v : Int32} {host : String} (B : kp_B p l s m args meth cd own cc nL ret D ty sz) (hG : cw_ok ty sz G Z) (hP : va_P D vwCl (cw_W G c Z) H) (hS : va_S (kp_A sz) s.heap H locs)
    (hl : Cond.fieldLinkNest own idx RX0 (TX0 0).2.1 (TX0 0).2.2.1 host ∈ lw_tbl) (hdg : decode cc pc = .ok (.putfield idx, 3))
    (kk : ∀ (H1 : Heap) (locs1 : List Loc), va_P D vwCl (cw_W G (cw_e0 c v) Z) H1 → va_S (kp_A sz) s.heap H1 locs1 → W p l e R s m args below meth cd H1 locs1 cells slots Q (F0 m (pc + 3) ls rest)) : W p l e R s m args below meth cd H locs cells slots Q (F0 m pc ls (.int v :: .ref (aS G) :: rest)) := by
  obtain ⟨hx, hb, hml, ho, hlk, hr, hw, hE, hK, hz⟩ := B
  exact va_putN (D := D) (ci := 0) (v := .int v) (ty := .int) (C := RX0) (T := TX0) (N := 2) (ref := RX0) hx hb (Ts := u_ws RX0 TX0 2) (fun w h => hw w (ul_S w h).1 (ul_S w h).2) (fun _ h => h) tyX0 tyX0_ok nmX0 ho hK hP (hG.2 c) hS 1 rfl rfl 0 (by decide) (hw _ hl rfl) (fun _ h9 => h9) rfl (by decide +kernel) rfl rfl (Nat.le_of_ble_eq_true rfl) hdg (fun H locs hP hD hS => kk H locs hP hS)
theorem kc_putSX1 {v : Int32} {host : String} (B : kp_B p l s m args meth cd own cc nL ret D ty sz) (hG : cw_ok ty sz G Z) (hP : va_P D vwCl (cw_W G c Z) H) (hS : va_S (kp_A sz) s.heap H locs)
    (hl : Cond.fieldLinkNest own idx RX0 (TX0 1).2.1 (TX0 1).2.2.1 host ∈ lw_tbl) (hdg : decode cc pc = .ok (.putfield idx, 3))
    (kk : ∀ (H1 : Heap) (locs1 : List Loc), va_P D vwCl (cw_W G (cw_e1 c v) Z) H1 → va_S (kp_A sz) s.heap H1 locs1 → W p l e R s m args below meth cd H1 locs1 cells slots Q (F0 m (pc + 3) ls rest)) : W p l e R s m args below meth cd H locs cells slots Q (F0 m pc ls (.int v :: .ref (aS G) :: rest)) := by
  obtain ⟨hx, hb, hml, ho, hlk, hr, hw, hE, hK, hz⟩ := B
  exact va_putN (D := D) (ci := 0) (v := .int v) (ty := .int) (C := RX0) (T := TX0) (N := 2) (ref := RX0) hx hb (Ts := u_ws RX0 TX0 2) (fun w h => hw w (ul_S w h).1 (ul_S w h).2) (fun _ h => h) tyX0 tyX0_ok nmX0 ho hK hP (hG.2 c) hS 1 rfl rfl 1 (by decide) (hw _ hl rfl) (fun _ h9 => h9) rfl (by decide +kernel) rfl rfl (Nat.le_of_ble_eq_true rfl) hdg (fun H locs hP hD hS => kk H locs hP hS)
/-- places[i] -/
theorem kc_aald {i : Int32} (B : kp_B p l s m args meth cd own cc nL ret D ty sz) (hG : cw_ok ty sz G Z) (hP : va_P D vwCl (cw_W G c Z) H) (hi : vp_in i 8) (hdg : decode cc pc = .ok (.aaload, 1))
    (kk : W p l e R s m args below meth cd H locs cells slots Q (F0 m (pc + 1) ls (.ref (aN G i.toNatClampNeg) :: rest))) : W p l e R s m args below meth cd H locs cells slots Q (F0 m pc ls (.int i :: .ref (aP G) :: rest)) := by
  obtain ⟨hx, hb, hml, ho, hlk, hr, hw, hE, hK, hz⟩ := B
  exact va_aldq (D := D) hx hb hK hP 2 0 rfl hG.1 hi hdg kk
theorem kc_rcD (B : kp_B p l s m args meth cd own cc nL ret D ty sz) (hP : va_P D vwCl (cw_W G c Z) H) : ∃ cell : Cell, H[aD G]? = some cell ∧ cell.vm.isStatics = false ∧ s.vm.findClass RX2 = some cell.cls := va_recv B.2.2.2.2.2.2.2.2.1 hP (ci := 2) (q0 := 0) (q := (RX2, TX2, 4)) rfl rfl
theorem kc_rcS (B : kp_B p l s m args meth cd own cc nL ret D ty sz) (hP : va_P D vwCl (cw_W G c Z) H) : ∃ cell : Cell, H[aS G]? = some cell ∧ cell.vm.isStatics = false ∧ s.vm.findClass RX0 = some cell.cls := va_recv B.2.2.2.2.2.2.2.2.1 hP (ci := 0) (q0 := 1) (q := (RX0, TX0, 2)) rfl rfl
theorem kc_rcN {k : Nat} (B : kp_B p l s m args meth cd own cc nL ret D ty sz) (hP : va_P D vwCl (cw_W G c Z) H) (hk : k < 10) : ∃ cell : Cell, H[aN G k]? = some cell ∧ cell.vm.isStatics = false ∧ s.vm.findClass RX1 = some cell.cls := va_recv B.2.2.2.2.2.2.2.2.1 hP (ci := 1) (q0 := 3 + k) (q := (RX1, TX1, 2)) rfl (cw_at hk)
theorem kc_in10 {i : Int32} (h : vp_in i 8) : i.toNatClampNeg < 10 := by
  obtain ⟨j, hj, rfl⟩ := vp_in_of h (by decide)
  rw [nI_clamp (by omega)]
  omega
theorem kc_01 {v : Int32} (h : v = 0 ∨ v = 1) : v = 0 ∨ v = 1 := h
end KCR
