-- the class's and the reference's rounding, as rounding of whole numbers
theorem zl_0le {a : Int} (h : zR a) : (0 : Int64) ≤ zL a ↔ 0 ≤ a := zl_le zr_0 h
theorem zl_le0 {a : Int} (h : zR a) : zL a ≤ (0 : Int64) ↔ a ≤ 0 := zl_le h zr_0
theorem zl_0lt {a : Int} (h : zR a) : (0 : Int64) < zL a ↔ 0 < a := zl_lt zr_0 h
theorem zl_lt0 {a : Int} (h : zR a) : zL a < (0 : Int64) ↔ a < 0 := zl_lt h zr_0
theorem zl_eq0 {a : Int} (h : zR a) : zL a = (0 : Int64) ↔ a = 0 := zl_eq h zr_0
def cwd (c : cw_C) (e m : Nat) : Prop := (c.1 = nI e ∧ c.2.1 = nI m) ∧ (2 ≤ e ∧ e ≤ 4) ∧ (1 ≤ m ∧ m ≤ 10)
def mwd (M : mw_C) (e m : Nat) : Prop := (M.1.2.1 = nI e ∧ M.1.2.2 = nI m) ∧ (2 ≤ e ∧ e ≤ 4) ∧ (1 ≤ m ∧ m ≤ 10)
def fb (e m : Nat) : Nat := 2 ^ (e - 1) - 2 + m
theorem all_em {P : Nat → Nat → Prop} (h : ∀ e, e < 5 → ∀ m, m < 11 → 2 ≤ e → P e m) {e m : Nat} (he : 2 ≤ e ∧ e ≤ 4) (hm : 1 ≤ m ∧ m ≤ 10) : P e m := h e (by omega) m (by omega) he.1
theorem fb_lt {e m : Nat} (he : 2 ≤ e ∧ e ≤ 4) (hm : 1 ≤ m ∧ m ≤ 10) : fb e m ≤ 16 := all_em (P := fun e m => fb e m ≤ 16) (by decide +kernel) he hm
theorem cs_unit {c : cw_C} {e m : Nat} (h : cwd c e m) : F_unitBits c = nI (fb e m) := by
  obtain ⟨⟨h1, h2⟩, he, hm⟩ := h
  unfold F_unitBits
  rw [h1, h2]
  exact all_em (P := fun e m => (((1 : Int32) <<< ((nI e - (1 : Int32)) &&& 31)) - (2 : Int32)) + nI m = nI (fb e m)) (by decide +kernel) he hm
theorem ms_fine {M : mw_C} {e m : Nat} (h : mwd M e m) : F_m_fine M = nI (fb e m) := by
  obtain ⟨⟨h1, h2⟩, he, hm⟩ := h
  unfold F_m_fine
  rw [h1, h2]
  exact all_em (P := fun e m => (((1 : Int32) <<< ((nI e - (1 : Int32)) &&& 31)) - (2 : Int32)) + nI m = nI (fb e m)) (by decide +kernel) he hm
theorem cs_sign {c : cw_C} {e m : Nat} (h : cwd c e m) : F_signBit c = nI (2 ^ (e + m)) := by
  obtain ⟨⟨h1, h2⟩, he, hm⟩ := h
  unfold F_signBit
  rw [h1, h2]
  exact all_em (P := fun e m => (1 : Int32) <<< ((nI e + nI m) &&& 31) = nI (2 ^ (e + m))) (by decide +kernel) he hm
theorem cs_end {c : cw_C} {e m : Nat} (h : cwd c e m) : F_endlessPattern c = nI ((2 ^ e - 1) * 2 ^ m) := by
  obtain ⟨⟨h1, h2⟩, he, hm⟩ := h
  unfold F_endlessPattern
  rw [h1, h2]
  exact all_em (P := fun e m => (((1 : Int32) <<< (nI e &&& 31)) - (1 : Int32)) <<< (nI m &&& 31) = nI ((2 ^ e - 1) * 2 ^ m)) (by decide +kernel) he hm
theorem ms_end {M : mw_C} {e m : Nat} (h : mwd M e m) : F_m_endless M = nI ((2 ^ e - 1) * 2 ^ m) := by
  obtain ⟨⟨h1, h2⟩, he, hm⟩ := h
  unfold F_m_endless
  rw [h1, h2]
  exact all_em (P := fun e m => (((1 : Int32) <<< (nI e &&& 31)) - (1 : Int32)) <<< (nI m &&& 31) = nI ((2 ^ e - 1) * 2 ^ m)) (by decide +kernel) he hm
theorem ms_most {M : mw_C} {e m : Nat} (h : mwd M e m) : F_m_most M = lN (mo e m) := by
  obtain ⟨⟨h1, h2⟩, he, hm⟩ := h
  unfold F_m_most
  rw [h1, h2]
  exact all_em (P := fun e m => (((2 : Int64) <<< ((nI m).toInt64 &&& 63)) - (1 : Int64)) <<< ((((1 : Int32) <<< (nI e &&& 31)) - (3 : Int32)).toInt64 &&& 63) = lN (mo e m)) (by decide +kernel) he hm
theorem cs_most {c : cw_C} {e m : Nat} (h : cwd c e m) : F_sizeOf c (F_endlessPattern c - 1) = lN (mo e m) := by
  have hE := cs_end h
  obtain ⟨⟨h1, h2⟩, he, hm⟩ := h
  unfold F_sizeOf
  rw [h2, hE]
  exact all_em (P := fun e m => (if nI ((2 ^ e - 1) * 2 ^ m) - 1 = nI ((2 ^ e - 1) * 2 ^ m) then cw_inf else (if ((nI ((2 ^ e - 1) * 2 ^ m) - 1) >>> (nI m &&& 31)) = (0 : Int32) then ((nI ((2 ^ e - 1) * 2 ^ m) - 1) &&& (((1 : Int32) <<< (nI m &&& 31)) - (1 : Int32))).toInt64 else (((1 : Int64) <<< ((nI m).toInt64 &&& 63)) + (((nI ((2 ^ e - 1) * 2 ^ m) - 1) &&& (((1 : Int32) <<< (nI m &&& 31)) - (1 : Int32))).toInt64)) <<< ((((nI ((2 ^ e - 1) * 2 ^ m) - 1) >>> (nI m &&& 31)) - (1 : Int32)).toInt64 &&& 63))) = lN (mo e m)) (by decide +kernel) he hm
theorem ln_shr {n k : Nat} (hn : n < 4611686018427387904) (hk : k < 64) : lN n >>> ((nI k).toInt64 &&& 63) = lN (n / 2 ^ k) := by
  rw [← zl_nat, zl_shr (by unfold zR; omega) hk, ← zl_nat]
  congr 1
theorem ln_shl (n : Nat) {k : Nat} (hk : k < 64) : lN n <<< ((nI k).toInt64 &&& 63) = lN (n * 2 ^ k) := yb_shl n hk
theorem xb_62 {m n : Nat} (hm : 1 ≤ m) (hn : n < 4611686018427387904) : xb m n < 62 := by
  refine Nat.lt_of_not_le (fun h => ?_)
  have h1 := xb_ge (m := m) (n := n) (by omega)
  have h2 : 2 ^ 62 ≤ 2 ^ (m + xb m n) := p2_le (by omega)
  omega
theorem cs_extra {c : cw_C} {e m : Nat} (h : cwd c e m) {n : Nat} (hn : n < 4611686018427387904) : F_extraBits c (lN n) = nI (xb m n) := by
  obtain ⟨⟨h1, h2⟩, he, hm⟩ := h
  have h62 := xb_62 hm.1 hn
  have key : ∀ f j, j ≤ xb m n → xb m n < j + f → LF_extraBits c (lN n) f (nI j) = nI (xb m n) := by
    intro f
    induction f with
    | zero => intro j a b; omega
    | succ f ih =>
      intro j a b
      rw [LF_extraBits, if_neg (show ¬ (62 : Int32) ≤ nI j from fun q => absurd ((nI_leI (a := 62) (by decide) (by omega)).mp q) (by omega)), h2,
        show ((2 : Int64) <<< ((nI m).toInt64 &&& 63)) = lN (2 * 2 ^ m) from ln_shl 2 (by omega), ln_shr hn (by omega)]
      have hq : n / 2 ^ j ≤ n := Nat.div_le_self _ _
      have hm2 : 2 * 2 ^ m ≤ 2048 := by
        have : 2 ^ m ≤ 2 ^ 10 := p2_le hm.2
        omega
      by_cases hj : j = xb m n
      · subst hj
        rw [if_neg]
        rw [pk_lLE (by omega) (by omega)]
        have := xb_q m n
        rw [Nat.pow_succ] at this
        omega
      · rw [if_pos, nI_1]
        · exact ih (j + 1) (by omega) (by omega)
        · rw [pk_lLE (by omega) (by omega), Nat.le_div_iff_mul_le (p2_pos _)]
          have a1 := xb_ge (m := m) (n := n) (by omega)
          have a2 : 2 ^ (m + 1 + j) ≤ 2 ^ (m + xb m n) := p2_le (by omega)
          rw [Nat.pow_add, Nat.pow_succ] at a2
          rw [Nat.mul_comm 2]
          omega
  exact key 63 0 (by omega) (by omega)
theorem cs_sna {c : cw_C} {e m : Nat} (h : cwd c e m) {n : Nat} (hn : n ≤ 1152921504606846976) : F_sizeNotAbove c (lN n) = lN (dn e m n) := by
  have hmo := mo_lt e m h.2.1.2 h.2.2.2
  unfold F_sizeNotAbove dn
  rw [cs_most h, cs_extra h (by omega)]
  have hx := xb_62 (m := m) (n := n) h.2.2.1 (by omega)
  by_cases hq : n ≤ mo e m
  · rw [if_pos ((pk_lLE (by omega) (by omega)).mpr hq), if_pos hq, ln_shr (by omega) (by omega), ln_shl _ (by omega)]
    rfl
  · rw [if_neg (fun q => hq ((pk_lLE (by omega) (by omega)).mp q)), if_neg hq]
theorem cs_snb {c : cw_C} {e m : Nat} (h : cwd c e m) {n : Nat} (hn : n ≤ 1152921504606846976) : F_sizeNotBelow c (lN n) = lN (up e m n) := by
  have hmo := mo_lt e m h.2.1.2 h.2.2.2
  unfold F_sizeNotBelow up
  rw [cs_most h, cs_extra h (by omega)]
  have hx := xb_62 (m := m) (n := n) h.2.2.1 (by omega)
  have hp := p2_pos (xb m n)
  by_cases hq : n ≤ mo e m
  · have h24 : 2 ^ xb m n ≤ 2 ^ 24 := by
      refine p2_le (Nat.le_of_not_lt (fun h9 => ?_))
      have h1 := xb_ge (m := m) (n := n) (by omega)
      have h2 : 2 ^ 24 ≤ 2 ^ (m + xb m n) := p2_le (by omega)
      omega
    rw [if_pos ((pk_lLE (by omega) (by omega)).mpr hq), if_pos hq, show (1 : Int64) <<< ((nI (xb m n)).toInt64 &&& 63) = lN (1 * 2 ^ xb m n) from ln_shl 1 (by omega), Nat.one_mul, lN_add, show (1 : Int64) = lN 1 from rfl, lN_sub (by omega), ln_shr (by omega) (by omega), ln_shl _ (by omega)]
    rfl
  · rw [if_neg (fun q => hq ((pk_lLE (by omega) (by omega)).mp q)), if_neg hq]
    rfl
/-- the number rounded to the format, downwards and upwards -/
def nA (e m : Nat) (a : Int) : Int := if 0 ≤ a then (dn e m a.toNat : Int) else -(up e m (-a).toNat : Int)
def nB (e m : Nat) (a : Int) : Int := -(nA e m (-a))
theorem cs_nA {c : cw_C} {e m : Nat} (h : cwd c e m) {a : Int} (h1 : -1152921504606846976 ≤ a) (h2 : a ≤ 1152921504606846976) : F_notAbove c (zL a) = zL (nA e m a) := by
  unfold F_notAbove nA
  by_cases h0 : 0 ≤ a
  · rw [if_pos h0, if_pos ((zl_0le (by unfold zR; omega)).mpr h0)]
    obtain ⟨n, rfl⟩ := Int.eq_ofNat_of_zero_le h0
    rw [zl_nat, cs_sna h (by omega), Int.toNat_natCast, zl_nat]
  · rw [if_neg h0, if_neg (fun q => h0 ((zl_0le (by unfold zR; omega)).mp q)), zl_neg]
    obtain ⟨n, hn⟩ := Int.eq_ofNat_of_zero_le (show 0 ≤ -a by omega)
    rw [hn, zl_nat, cs_snb h (by omega), Int.toNat_natCast, ← zl_nat, zl_neg]
theorem cs_nB {c : cw_C} {e m : Nat} (h : cwd c e m) {a : Int} (h1 : -1152921504606846976 ≤ a) (h2 : a ≤ 1152921504606846976) : F_notBelow c (zL a) = zL (nB e m a) := by
  unfold F_notBelow nB
  rw [zl_neg, cs_nA h (by omega) (by omega), zl_neg]
/-- the class's endless, and the reference's -/
def ph (a : Int) : Int := if a = 1152921504606846976 then 1125899906842624 else if a = -1152921504606846976 then -1125899906842624 else a
theorem ph_neg (a : Int) : ph (-a) = -ph a := by
  unfold ph
  split
  · rw [if_neg (by omega), if_pos (by omega)]; rfl
  · split
    · rw [if_pos (by omega)]
    · rw [if_neg (by omega), if_neg (by omega)]
theorem ph_id {a : Int} (h1 : -1152921504606846976 < a) (h2 : a < 1152921504606846976) : ph a = a := by
  unfold ph
  rw [if_neg (by omega), if_neg (by omega)]
def blen (n : Nat) : Nat := if n = 0 then 0 else n.log2 + 1
theorem ms_len {n : Nat} (hn : n < 4611686018427387904) : F_m_length (lN n) = nI (blen n) := by
  have hl : blen n ≤ 62 := by
    unfold blen
    split
    · omega
    · rename_i h0
      have := (Nat.log2_lt (k := 62) h0).mpr hn
      omega
  have key : ∀ f j, j ≤ blen n → blen n < j + f → LF_m_length (lN n) f (nI j) = nI (blen n) := by
    intro f
    induction f with
    | zero => intro j a b; omega
    | succ f ih =>
      intro j a b
      have hq : n / 2 ^ j ≤ n := Nat.div_le_self _ _
      rw [LF_m_length, ln_shr hn (by omega), show (0 : Int64) = lN 0 from rfl]
      by_cases hj : j = blen n
      · subst hj
        rw [if_pos]
        rw [pk_lLE (by omega) (by omega)]
        refine Nat.le_of_eq (Nat.div_eq_of_lt ?_)
        unfold blen
        split
        · rename_i h0; subst h0; exact p2_pos _
        · rename_i h0
          exact (Nat.log2_lt h0).mp (Nat.lt_succ_self _)
      · rw [if_neg, nI_1]
        · exact ih (j + 1) (by omega) (by omega)
        · rw [pk_lLE (by omega) (by omega)]
          have h0 : n ≠ 0 := by
            intro h0
            unfold blen at a hj
            rw [if_pos h0] at a hj
            omega
          have h1 : 1 ≤ n / 2 ^ j := by
            rw [Nat.le_div_iff_mul_le (p2_pos _), Nat.one_mul]
            refine Nat.le_trans (p2_le ?_) (Nat.log2_self_le h0)
            unfold blen at a hj
            rw [if_neg h0] at a hj
            omega
          omega
  exact key 64 0 (by omega) (by omega)
theorem blen_xb {m n : Nat} : (if blen n ≤ m + 1 then 0 else blen n - m - 1) = xb m n := by
  unfold blen xb
  by_cases h : n = 0
  · subst h
    rw [if_pos rfl, if_pos (by omega), Nat.log2_zero]
    omega
  · rw [if_neg h]
    split <;> omega
