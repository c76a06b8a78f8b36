-- the relation of the class's state and the reference's
def spl (e m : Nat) (p : Int64 × Int64) (s : Bool) (lo hi : Int64) : Prop :=
  (s = false ∧ ¬ p.1 ≤ p.2) ∨ (s = true ∧ ∃ a b : Int, p = (zL a, zL b) ∧ a ≤ b ∧ elo e m a ∧ ehi e m b ∧ lo = zL (ph a) ∧ hi = zL (ph b))
def kps (e m : Nat) (p : Int64 × Int64) (s : Bool) (fr to : Int64) : Prop :=
  (s = false ∧ ¬ p.1 ≤ p.2) ∨ (s = true ∧ ∃ a b : Int, p = (zL a, zL b) ∧ a ≤ b ∧ glo a ∧ ghi b ∧ fr = zL (ph (nA e m a)) ∧ to = zL (ph (nB e m b)))
def rlp (e m : Nat) (c : cw_C) (M : mw_C) : Prop := ∀ k, k < 8 → spl e m (c.2.2 k) (M.2.1.1 k) (M.2.1.2.1 k) (M.2.1.2.2 k)
def rel (c : cw_C) (M : mw_C) : Prop := ∃ e m, cwd c e m ∧ mwd M e m ∧ rlp e m c M
def cfr (c c' : cw_C) : Prop := c'.1 = c.1 ∧ c'.2.1 = c.2.1 ∧ ∀ k, k < 8 → c'.2.2 k = c.2.2 k
def mfr (M M' : mw_C) : Prop := M'.1 = M.1 ∧ M'.2.1 = M.2.1
theorem z_tt : z_t 1 = true := by decide
theorem z_tf : z_t 0 = false := by decide
theorem z_ti (b : Bool) : z_t (z_i b) = b := by cases b <;> decide
theorem z_i0 {b : Bool} : z_i b = 0 ↔ b = false := by cases b <;> decide
theorem be_at (c : cw_C) (k : Nat) (x y : Int64) : (S_become c k x y).2.2 k = (x, y) := by
  simp [S_become, cw_s0, cw_s1, va_up]
theorem be_ne (c : cw_C) {k j : Nat} (x y : Int64) (h : j ≠ k) : (S_become c k x y).2.2 j = c.2.2 j := by
  simp [S_become, cw_s0, cw_s1, va_up, h]
theorem be_w {c : cw_C} {e m k : Nat} {x y : Int64} (h : cwd c e m) : cwd (S_become c k x y) e m := h
theorem be_e (c : cw_C) (k : Nat) : S_becomeEmpty c k = S_become c k 1 0 := rfl
theorem be_f {c : cw_C} {k : Nat} {x y : Int64} (h : 8 ≤ k) : cfr c (S_become c k x y) := ⟨rfl, rfl, fun j hj => be_ne c x y (by omega)⟩
theorem cfr_rf (c : cw_C) : cfr c c := ⟨rfl, rfl, fun _ _ => rfl⟩
theorem cfr_tr {a b c : cw_C} (h : cfr a b) (g : cfr b c) : cfr a c := ⟨g.1.trans h.1, g.2.1.trans h.2.1, fun k hk => (g.2.2 k hk).trans (h.2.2 k hk)⟩
theorem cfr_w {c c' : cw_C} {e m : Nat} (f : cfr c c') (h : cwd c e m) : cwd c' e m := ⟨⟨f.1.trans h.1.1, f.2.1.trans h.1.2⟩, h.2⟩
theorem mfr_w {M M' : mw_C} {e m : Nat} (f : mfr M M') (h : mwd M e m) : mwd M' e m := by
  unfold mwd at h ⊢
  rw [f.1]
  exact h
theorem mfr_tr {a b c : mw_C} (h : mfr a b) (g : mfr b c) : mfr a c := ⟨g.1.trans h.1, g.2.trans h.2⟩
theorem ie_0 {c : cw_C} {k : Nat} : F_isEmpty c k = 0 ↔ (c.2.2 k).1 ≤ (c.2.2 k).2 := by
  unfold F_isEmpty
  by_cases h : (c.2.2 k).1 ≤ (c.2.2 k).2
  · rw [if_pos h]; exact ⟨fun _ => h, fun _ => rfl⟩
  · rw [if_neg h]; exact ⟨fun q => absurd q (by decide), fun q => absurd q h⟩
theorem e10 : ¬ (1 : Int64) ≤ 0 := by decide
theorem ip_c (x : Int32) : (F_isPlace x = 0 ∧ F_m_isPlace x = 0) ∨ (F_isPlace x = 1 ∧ F_m_isPlace x = 1 ∧ ∃ j : Nat, j < 8 ∧ x = nI j) := by
  unfold F_isPlace F_m_isPlace
  rcases pk_ix x (n := 8) (by decide) with h | h | ⟨j, hj, rfl⟩
  · rw [if_pos h]; exact Or.inl ⟨rfl, rfl⟩
  · by_cases h0 : x < 0
    · rw [if_pos h0]; exact Or.inl ⟨rfl, rfl⟩
    · rw [if_neg h0, if_pos (show (8 : Int32) ≤ x from h)]; exact Or.inl ⟨rfl, rfl⟩
  · have h1 : ¬ nI j < 0 := fun q => absurd ((nI_ltI (b := 0) (by omega) (by omega)).mp q) (by omega)
    have h2 : ¬ (8 : Int32) ≤ nI j := fun q => absurd ((nI_leI (a := 8) (by omega) (by omega)).mp q) (by omega)
    rw [if_neg h1, if_neg h2]
    exact Or.inr ⟨rfl, rfl, j, hj, rfl⟩
theorem n1_0 : ¬ (1 : Int32) = 0 := by decide
def kno (a b : Int) : Int32 := if a = -1152921504606846976 then (if b = 1152921504606846976 then 5 else 4) else if b = 1152921504606846976 then 3 else if a = b then 1 else 2
theorem elo_ge {e m : Nat} {a : Int} (he : e ≤ 4) (hm : m ≤ 10) (h : elo e m a) : ge a := by
  rcases h with h | h
  · exact Or.inr (Or.inl h)
  · have := fin_b he hm h
    unfold ge; omega
theorem ehi_ge {e m : Nat} {a : Int} (he : e ≤ 4) (hm : m ≤ 10) (h : ehi e m a) : ge a := by
  rcases h with h | h
  · exact Or.inl h
  · have := fin_b he hm h
    unfold ge; omega
theorem kn_e {c : cw_C} {k : Nat} (h : ¬ (c.2.2 k).1 ≤ (c.2.2 k).2) : F_kindNumber c k = 0 := by
  unfold F_kindNumber
  rw [if_neg (fun q => h (ie_0.mp q))]
theorem kn_c {c : cw_C} {k : Nat} {a b : Int} (h : c.2.2 k = (zL a, zL b)) (hab : a ≤ b) (ha : gd a) (hb : gd b) : F_kindNumber c k = kno a b := by
  have ra := gd_zr ha
  have rb := gd_zr hb
  have e1 : zL a = -cw_inf ↔ a = -1152921504606846976 := by rw [zl_inf, zl_neg]; exact zl_eq ra (by unfold zR; omega)
  have e2 : zL b = cw_inf ↔ b = 1152921504606846976 := by rw [zl_inf]; exact zl_eq rb (by unfold zR; omega)
  have e3 := zl_eq ra rb
  unfold F_kindNumber kno
  rw [if_pos (ie_0.mpr (by rw [h]; exact (zl_le ra rb).mpr hab)), h]
  dsimp only
  by_cases h1 : a = -1152921504606846976
  · rw [if_pos (e1.mpr h1), if_pos h1]
    by_cases h2 : b = 1152921504606846976
    · rw [if_pos (e2.mpr h2), if_pos h2]
    · rw [if_neg (fun q => h2 (e2.mp q)), if_neg h2]
  · rw [if_neg (fun q => h1 (e1.mp q)), if_neg h1]
    by_cases h2 : b = 1152921504606846976
    · rw [if_pos (e2.mpr h2), if_pos h2]
    · rw [if_neg (fun q => h2 (e2.mp q)), if_neg h2]
      by_cases h3 : a = b
      · rw [if_pos (e3.mpr h3), if_pos h3]
      · rw [if_neg (fun q => h3 (e3.mp q)), if_neg h3]
theorem sk_m (M : mw_C) (x : Int32) : S_m_kind M x = mp_thrown M 0 := by
  unfold S_m_kind
  simp only [ite_self]
theorem ip_1 {j : Nat} (hj : j < 8) : F_m_isPlace (nI j) = 1 ∧ F_isPlace (nI j) = 1 := by
  have h : ∀ j, j < 8 → F_m_isPlace (nI j) = 1 ∧ F_isPlace (nI j) = 1 := by decide +kernel
  exact h j hj
theorem kn_m {M : mw_C} {j : Nat} {a b : Int} (hj : j < 8) (hs : M.2.1.1 j = true) (hl : M.2.1.2.1 j = zL (ph a)) (hh : M.2.1.2.2 j = zL (ph b)) (ha : glo a) (hb : ghi b) : F_m_kind M (nI j) = kno a b := by
  have ga := glo_gd ha
  have gb := ghi_gd hb
  have e1 := mi_end (ph_zr ga)
  have e2 := mi_end (ph_zr gb)
  rw [ph_end ga] at e1
  rw [ph_end gb] at e2
  have e3 : zL (ph a) = zL (ph b) ↔ a = b := (zl_eq (ph_zr ga) (ph_zr gb)).trans (ph_inj ga gb)
  unfold F_m_kind kno
  rw [(ip_1 hj).1, if_neg n1_0, nI_clamp (by omega)]
  show (if z_i (M.2.1.1 j) = 0 then (0 : Int32) else _) = _
  rw [hs, if_neg (show ¬ z_i true = 0 by decide)]
  show (if F_m_isEnd (M.2.1.2.1 j) = 0 then (if F_m_isEnd (M.2.1.2.2 j) = 0 then (5 : Int32) else 4) else if F_m_isEnd (M.2.1.2.2 j) = 0 then (3 : Int32) else if M.2.1.2.1 j = M.2.1.2.2 j then (1 : Int32) else 2) = _
  rw [hl, hh]
  unfold glo at ha
  unfold ghi at hb
  by_cases h2 : b = 1152921504606846976
  · by_cases h1 : a = -1152921504606846976
    · rw [if_pos (e1.mpr (fun q => q (Or.inr h1))), if_pos h1, if_pos (e2.mpr (fun q => q (Or.inl h2))), if_pos h2]
    · rw [if_neg (fun q => e1.mp q (by omega)), if_neg h1, if_pos (e2.mpr (fun q => q (Or.inl h2))), if_pos h2]
  · by_cases h1 : a = -1152921504606846976
    · rw [if_pos (e1.mpr (fun q => q (Or.inr h1))), if_pos h1, if_neg (fun q => e2.mp q (by omega)), if_neg h2]
    · rw [if_neg (fun q => e1.mp q (by omega)), if_neg h1, if_neg (fun q => e2.mp q (by omega)), if_neg h2]
      by_cases h3 : a = b
      · rw [if_pos (e3.mpr h3), if_pos h3]
      · rw [if_neg (fun q => h3 (e3.mp q)), if_neg h3]
theorem kn_me {M : mw_C} {j : Nat} (hj : j < 8) (hs : M.2.1.1 j = false) : F_m_kind M (nI j) = 0 := by
  unfold F_m_kind
  rw [(ip_1 hj).1, if_neg n1_0, nI_clamp (by omega)]
  show (if z_i (M.2.1.1 j) = 0 then (0 : Int32) else _) = _
  rw [hs, if_pos (show z_i false = 0 by decide)]
section KEEP
variable {c c' : cw_C} {M M' : mw_C} {e m : Nat}
theorem kd_ok (hm : mwd M e m) (hr : rlp e m c M) {j : Nat} (hj : j < 8) : F_kindNumber c j = F_m_kind M (nI j) := by
  rcases hr j hj with ⟨h1, h2⟩ | ⟨h1, a, b, h2, h3, h4, h5, h6, h7⟩
  · rw [kn_e h2, kn_me hj h1]
  · have ga := elo_g hm.2.1.2 hm.2.2.2 h4
    have gb := ehi_g hm.2.1.2 hm.2.2.2 h5
    rw [kn_c h2 h3 (glo_gd ga) (ghi_gd gb), kn_m hj h1 h6 h7 ga gb]
theorem keep_ok (hw : cwd c e m) (hm : mwd M e m) (hr : rlp e m c M) (cf : cfr c c') (mf : mfr M M') {u : Nat} (hu : 8 ≤ u)
    (hk : kps e m (c'.2.2 u) M'.2.2.1.1 M'.2.2.1.2.1 M'.2.2.1.2.2) {j : Nat} (hj : j < 8) :
    F_keep c' u j = F_m_keep M' (nI j) ∧ cwd (S_keep c' u j) e m ∧ mwd (S_m_keep M' (nI j)) e m ∧ rlp e m (S_keep c' u j) (S_m_keep M' (nI j)) ∧ (S_m_keep M' (nI j)).1.1 = 0 ∧ ∀ v, 8 ≤ v → (S_keep c' u j).2.2 v = c'.2.2 v := by
  have hw' := cfr_w cf hw
  have hm' := mfr_w mf hm
  have hr' : rlp e m c' M' := by
    intro k hk9
    rw [cf.2.2 k hk9, mf.2]
    exact hr k hk9
  have hS : ∃ x y, S_keep c' u j = S_become c' j x y ∧ F_keep c' u j = F_kindNumber (S_become c' j x y) j ∧ spl e m (x, y) M'.2.2.1.1 M'.2.2.1.2.1 M'.2.2.1.2.2 := by
    unfold S_keep F_keep
    rcases hk with ⟨h1, h2⟩ | ⟨h1, a, b, h2, h3, h4, h5, h6, h7⟩
    · rw [if_neg (fun q => h2 (ie_0.mp q)), if_neg (fun q => h2 (ie_0.mp q))]
      exact ⟨1, 0, rfl, rfl, Or.inl ⟨h1, e10⟩⟩
    · have hle : F_isEmpty c' u = 0 := ie_0.mpr (by rw [h2]; exact (zl_le (gd_zr (glo_gd h4)) (gd_zr (ghi_gd h5))).mpr h3)
      rw [if_pos hle, if_pos hle, h2]
      refine ⟨_, _, rfl, rfl, Or.inr ⟨h1, nA e m a, nB e m b, ?_, ?_, nA_lo h4, nB_hi h5, h6, h7⟩⟩
      · dsimp only
        rw [cs_nA hw' (by unfold glo at h4; omega) (by unfold glo at h4; omega), cs_nB hw' (by unfold ghi at h5; omega) (by unfold ghi at h5; omega)]
      · have b1 := nA_le (e := e) (m := m) (a := a) (by unfold glo at h4; omega)
        have b2 := nB_ge (e := e) (m := m) (a := b) (by unfold ghi at h5; omega)
        omega
  obtain ⟨x, y, hS1, hF1, hsp⟩ := hS
  have hB : ∀ k, (B_m_keep_3 M' (nI j)).2.1.1 k = (if k = j then M'.2.2.1.1 else M'.2.1.1 k) ∧ (B_m_keep_3 M' (nI j)).2.1.2.1 k = (if k = j then M'.2.2.1.2.1 else M'.2.1.2.1 k) ∧ (B_m_keep_3 M' (nI j)).2.1.2.2 k = (if k = j then M'.2.2.1.2.2 else M'.2.1.2.2 k) := by
    intro k
    have hc : (nI j).toNatClampNeg = j := nI_clamp (by omega)
    refine ⟨?_, ?_, ?_⟩
    · show va_up M'.2.1.1 (nI j).toNatClampNeg (z_t (z_i M'.2.2.1.1)) k = _
      rw [hc, z_ti]; rfl
    · show va_up M'.2.1.2.1 (nI j).toNatClampNeg M'.2.2.1.2.1 k = _
      rw [hc]; rfl
    · show va_up M'.2.1.2.2 (nI j).toNatClampNeg M'.2.2.1.2.2 k = _
      rw [hc]; rfl
  have hrB : rlp e m (S_become c' j x y) (B_m_keep_3 M' (nI j)) := by
    intro k hk9
    obtain ⟨b1, b2, b3⟩ := hB k
    rw [b1, b2, b3]
    by_cases hkj : k = j
    · rw [if_pos hkj, if_pos hkj, if_pos hkj, hkj, be_at]
      exact hsp
    · rw [if_neg hkj, if_neg hkj, if_neg hkj, be_ne _ _ _ hkj]
      exact hr' k hk9
  have hmB : mwd (B_m_keep_3 M' (nI j)) e m := hm'
  refine ⟨?_, ?_, ?_, ?_, ?_, ?_⟩
  · rw [hF1]
    unfold F_m_keep
    exact kd_ok hmB hrB hj
  · rw [hS1]; exact be_w hw'
  · unfold S_m_keep
    rw [sk_m]
    exact hm'
  · unfold S_m_keep
    rw [sk_m, hS1]
    exact hrB
  · unfold S_m_keep
    rw [sk_m]
    rfl
  · intro v hv
    rw [hS1]
    exact be_ne _ _ _ (by omega)
end KEEP
