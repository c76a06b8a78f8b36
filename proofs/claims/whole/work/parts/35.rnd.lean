-- the reference's rounded(), and facts of rounding to the format
theorem ms_rounded {M : mw_C} {e m : Nat} (h : mwd M e m) {n d : Nat} {x : Int64} {z b : Int32} (hn : n < 1125899906842624) (hd : 0 < d) (hd2 : d < 1125899906842624)
    (hA : A_m_rounded_1 M x (lN d) z = lN n) (hb : (if (0 : Int64) ≤ x then (0 : Int32) else (1 : Int32)) = b) :
    A_m_rounded_10 M x (lN d) z = lN (if z = b then dn e m (n / d) else if up e m (if n % d = 0 then n / d else n / d + 1) = 1152921504606846976 then 1125899906842624 else up e m (if n % d = 0 then n / d else n / d + 1)) := by
  have hmo := mo_lt e m h.2.1.2 h.2.2.2
  have hq : n / d ≤ n := Nat.div_le_self _ _
  have hx := xb_62 (m := m) (n := n / d) h.2.2.1 (by omega)
  have hm := h.2.2
  have hD : lN n / lN d = lN (n / d) := pk_lDiv (by omega) hd (by omega)
  have h2 : I_m_rounded_2 M x (lN d) z = if n % d = 0 then 0 else 1 := by
    unfold I_m_rounded_2
    rw [hA, pk_lRem (by omega) hd (by omega)]
    have hr : n % d < d := Nat.mod_lt _ hd
    by_cases h0 : n % d = 0
    · rw [if_pos h0, if_pos (by rw [h0]; rfl)]
    · rw [if_neg h0, if_neg (show ¬ lN (n % d) = (0 : Int64) from fun q => h0 ((pk_lEQ (b := 0) (by omega) (by omega)).mp q))]
  have hl : blen (n / d) ≤ 62 := by
    unfold blen
    split
    · omega
    · rename_i h0
      have := (Nat.log2_lt (k := 62) h0).mpr (by omega)
      omega
  have h3 : I_m_rounded_3 M x (lN d) z = nI (xb m (n / d)) := by
    unfold I_m_rounded_3
    rw [hA, hD, ms_len (by omega), h.1.2, nI_1, ← blen_xb]
    by_cases h0 : blen (n / d) ≤ m + 1
    · rw [if_pos h0, if_pos ((nI_leI (by omega) (by omega)).mpr h0)]
      rfl
    · rw [if_neg h0, if_neg (fun q => h0 ((nI_leI (by omega) (by omega)).mp q)), pk_sub (by omega), show (1 : Int32) = nI 1 from rfl, pk_sub (by omega)]
  have h5 : A_m_rounded_5 M x (lN d) z = lN (rd m (n / d)) := by
    unfold A_m_rounded_5
    rw [hA, hD, h3, ln_shr (by omega) (by omega), ln_shl _ (by omega)]
    rfl
  have hrd := rd_le m (n / d)
  have h4 : I_m_rounded_4 M x (lN d) z = if n % d = 0 ∧ rd m (n / d) = n / d then 0 else 1 := by
    have h5' := h5
    unfold A_m_rounded_5 at h5'
    unfold I_m_rounded_4
    rw [h2, h5', hA, hD]
    by_cases h0 : n % d = 0
    · rw [if_pos h0, if_pos rfl]
      by_cases h1 : rd m (n / d) = n / d
      · rw [if_pos (by rw [h1]), if_pos ⟨h0, h1⟩]
      · rw [if_neg (fun q => h1 ((pk_lEQ (by omega) (by omega)).mp q)), if_neg (fun q => h1 q.2)]
    · rw [if_neg h0, if_neg (by decide), if_neg (fun q => h0 q.1)]
  have h6 : I_m_rounded_6 M x (lN d) z = if z = b then 0 else 1 := by
    unfold I_m_rounded_6
    rw [hb]
  have h24 : 2 ^ xb m (n / d) ≤ 1125899906842624 := by
    rcases Nat.eq_zero_or_pos (xb m (n / d)) with h9 | h9
    · rw [h9]; decide
    · have := xb_ge h9
      have h8 : 2 ^ xb m (n / d) ≤ 2 ^ (m + xb m (n / d)) := p2_le (by omega)
      omega
  have h7 : A_m_rounded_7 M x (lN d) z = lN (rd m (n / d) + 2 ^ xb m (n / d)) := by
    unfold A_m_rounded_7
    rw [h5, h3, show (1 : Int64) <<< ((nI (xb m (n / d))).toInt64 &&& 63) = lN (1 * 2 ^ xb m (n / d)) from ln_shl 1 (by omega), Nat.one_mul, lN_add]
  unfold A_m_rounded_10 A_m_rounded_9
  have h8 : A_m_rounded_8 M x (lN d) z = lN (if z = b then rd m (n / d) else ru m (if n % d = 0 then n / d else n / d + 1)) := by
    unfold A_m_rounded_8
    rw [h5, h7]
    by_cases hz : z = b
    · rw [if_pos (show I_m_rounded_6 M x (lN d) z = 0 by rw [h6, if_pos hz]), if_pos hz]
    · rw [if_neg (show ¬ I_m_rounded_6 M x (lN d) z = 0 by rw [h6, if_neg hz]; decide), if_neg hz]
      by_cases h0 : n % d = 0
      · rw [if_pos h0, ru_eq]
        by_cases h1 : rd m (n / d) = n / d
        · rw [if_pos (show I_m_rounded_4 M x (lN d) z = 0 by rw [h4, if_pos ⟨h0, h1⟩]), if_pos h1, h1]
        · rw [if_neg (show ¬ I_m_rounded_4 M x (lN d) z = 0 by rw [h4, if_neg (fun q => h1 q.2)]; decide), if_neg h1]
      · rw [if_neg h0, ru_succ, if_neg (show ¬ I_m_rounded_4 M x (lN d) z = 0 by rw [h4, if_neg (fun q => h0 q.1)]; decide)]
  rw [h8, ms_most h]
  by_cases hz : z = b
  · rw [if_pos (show I_m_rounded_6 M x (lN d) z = 0 by rw [h6, if_pos hz]), if_pos hz, if_pos hz, ← dn_alt]
    by_cases h1 : rd m (n / d) ≤ mo e m
    · rw [if_pos h1, if_pos ((pk_lLE (by omega) (by omega)).mpr h1)]
    · rw [if_neg h1, if_neg (fun q => h1 ((pk_lLE (by omega) (by omega)).mp q))]
  · rw [if_neg (show ¬ I_m_rounded_6 M x (lN d) z = 0 by rw [h6, if_neg hz]; decide), if_neg hz, if_neg hz, ← up_alt0]
    have hB : ru m (if n % d = 0 then n / d else n / d + 1) < 9223372036854775808 := by
      split
      · rw [ru_eq]
        split <;> omega
      · rw [ru_succ]
        omega
    generalize ru m (if n % d = 0 then n / d else n / d + 1) = u at hB ⊢
    by_cases h1 : u ≤ mo e m
    · rw [if_pos h1, if_pos ((pk_lLE (by omega) (by omega)).mpr h1), if_neg (by omega)]
    · rw [if_neg h1, if_neg (fun q => h1 ((pk_lLE (by omega) (by omega)).mp q)), if_pos rfl]
      rfl
theorem neg_div {n d : Nat} (hd : 0 < d) : -((-(n : Int)) / (d : Int)) = ((if n % d = 0 then n / d else n / d + 1 : Nat) : Int) := by
  have hd' : (0 : Int) < d := by omega
  have h1 := Nat.div_add_mod n d
  have h2 := Nat.mod_lt n hd
  split
  · rename_i h0
    have : -(n : Int) = (-(n / d : Nat) : Int) * d := by
      have : (n : Int) = (d : Int) * (n / d : Nat) := by
        rw [h0] at h1
        exact_mod_cast h1.symm
      rw [Int.neg_mul, Int.mul_comm, ← this]
    rw [this, Int.mul_ediv_cancel _ (by omega)]
    omega
  · rename_i h0
    have : -(n : Int) = ((d : Int) - (n % d : Nat)) + (-((n / d : Nat) + 1) : Int) * d := by
      have : (n : Int) = (d : Int) * (n / d : Nat) + (n % d : Nat) := by exact_mod_cast h1.symm
      rw [Int.neg_mul, Int.add_mul, Int.mul_comm _ (d : Int)]
      omega
    rw [this, Int.add_mul_ediv_right _ _ (by omega), Int.ediv_eq_zero_of_lt (by omega) (by omega)]
    omega
theorem up_ph {e m n : Nat} (he : e ≤ 4) (hm : m ≤ 10) : ph (up e m n : Int) = ((if up e m n = 1152921504606846976 then 1125899906842624 else up e m n : Nat) : Int) := by
  have hmo := mo_lt e m he hm
  have : up e m n ≤ mo e m ∨ up e m n = 1152921504606846976 := by
    by_cases h : n ≤ mo e m
    · exact Or.inl (up_le h)
    · right; unfold up; rw [if_neg h]
  unfold ph
  split
  · rw [if_pos (by omega)]; rfl
  · rw [if_neg (by omega), if_neg (by omega)]
theorem ms_dn {M : mw_C} {e m : Nat} (h : mwd M e m) {a d : Int} (h1 : -1125899906842624 < a) (h2 : a < 1125899906842624) (hd : 0 < d) (hd2 : d < 1125899906842624) :
    F_m_rounded M (zL a) (zL d) 0 = zL (ph (nA e m (a / d))) := by
  obtain ⟨d, rfl⟩ := Int.eq_ofNat_of_zero_le (Int.le_of_lt hd)
  have hmo := mo_lt e m h.2.1.2 h.2.2.2
  unfold F_m_rounded
  rw [zl_nat]
  by_cases h0 : 0 ≤ a
  · obtain ⟨n, rfl⟩ := Int.eq_ofNat_of_zero_le h0
    have hb : (if (0 : Int64) ≤ zL (n : Int) then (0 : Int32) else (1 : Int32)) = 0 := if_pos ((zl_0le (by unfold zR; omega)).mpr h0)
    have hA : A_m_rounded_1 M (zL (n : Int)) (lN d) 0 = lN n := by
      unfold A_m_rounded_1
      rw [hb, if_pos rfl, zl_nat]
    rw [ms_rounded h (by omega) (by omega) (by omega) hA hb, hb, if_pos rfl, if_pos rfl]
    have hk : nA e m ((n : Int) / (d : Int)) = (dn e m (n / d) : Int) := by
      unfold nA
      rw [if_pos (Int.ediv_nonneg (by omega) (by omega)), ← Int.natCast_ediv, Int.toNat_natCast]
    have h9 := dn_mo e m (n / d)
    rw [hk, ph_id (by omega) (by omega), zl_nat]
  · obtain ⟨n, hn⟩ := Int.eq_ofNat_of_zero_le (show 0 ≤ -a by omega)
    have ha : a = -(n : Int) := by omega
    have hb : (if (0 : Int64) ≤ zL a then (0 : Int32) else (1 : Int32)) = 1 := if_neg (fun q => h0 ((zl_0le (by unfold zR; omega)).mp q))
    have hA : A_m_rounded_1 M (zL a) (lN d) 0 = lN n := by
      unfold A_m_rounded_1
      rw [hb, if_neg (by decide), zl_neg, hn, zl_nat]
    rw [ms_rounded h (by omega) (by omega) (by omega) hA hb, hb, if_neg (by decide), if_neg (by decide)]
    have hk : nA e m (a / (d : Int)) = -(up e m (if n % d = 0 then n / d else n / d + 1) : Int) := by
      have h8 := neg_div (n := n) (d := d) (by omega)
      unfold nA
      rw [if_neg (Int.not_le.mpr (Int.ediv_neg_of_neg_of_pos (by omega) hd)), ha, h8, Int.toNat_natCast]
    rw [hk, ph_neg, up_ph h.2.1.2 h.2.2.2, ← zl_nat, zl_neg]
theorem ms_up {M : mw_C} {e m : Nat} (h : mwd M e m) {a d : Int} (h1 : -1125899906842624 < a) (h2 : a < 1125899906842624) (hd : 0 < d) (hd2 : d < 1125899906842624) :
    F_m_rounded M (zL a) (zL d) 1 = zL (ph (nB e m (-((-a) / d)))) := by
  obtain ⟨d, rfl⟩ := Int.eq_ofNat_of_zero_le (Int.le_of_lt hd)
  have hmo := mo_lt e m h.2.1.2 h.2.2.2
  unfold F_m_rounded nB
  rw [zl_nat, ph_neg, Int.neg_neg]
  by_cases h0 : 0 ≤ a
  · obtain ⟨n, rfl⟩ := Int.eq_ofNat_of_zero_le h0
    have hb : (if (0 : Int64) ≤ zL (n : Int) then (0 : Int32) else (1 : Int32)) = 0 := if_pos ((zl_0le (by unfold zR; omega)).mpr h0)
    have hA : A_m_rounded_1 M (zL (n : Int)) (lN d) 1 = lN n := by
      unfold A_m_rounded_1
      rw [hb, if_pos rfl, zl_nat]
    rw [ms_rounded h (by omega) (by omega) (by omega) hA hb, hb, if_pos rfl, if_neg (by decide)]
    have hk : nA e m (-(n : Int) / (d : Int)) = -(up e m (if n % d = 0 then n / d else n / d + 1) : Int) := by
      have h8 := neg_div (n := n) (d := d) (by omega)
      by_cases hn : n = 0
      · subst hn
        simp [nA, dn, up, rd, ru, xb]
      · unfold nA
        rw [if_neg (Int.not_le.mpr (Int.ediv_neg_of_neg_of_pos (by omega) hd)), h8, Int.toNat_natCast]
    rw [hk, ph_neg, Int.neg_neg, up_ph h.2.1.2 h.2.2.2, ← zl_nat]
  · obtain ⟨n, hn⟩ := Int.eq_ofNat_of_zero_le (show 0 ≤ -a by omega)
    have ha : a = -(n : Int) := by omega
    have hb : (if (0 : Int64) ≤ zL a then (0 : Int32) else (1 : Int32)) = 1 := if_neg (fun q => h0 ((zl_0le (by unfold zR; omega)).mp q))
    have hA : A_m_rounded_1 M (zL a) (lN d) 1 = lN n := by
      unfold A_m_rounded_1
      rw [hb, if_neg (by decide), zl_neg, hn, zl_nat]
    rw [ms_rounded h (by omega) (by omega) (by omega) hA hb, hb, if_pos rfl, if_neg (by decide)]
    have hk : nA e m (-a / (d : Int)) = (dn e m (n / d) : Int) := by
      unfold nA
      rw [hn, if_pos (Int.ediv_nonneg (by omega) (by omega)), ← Int.natCast_ediv, Int.toNat_natCast]
    have h9 := dn_mo e m (n / d)
    rw [hk, ph_id (by omega) (by omega), ← zl_nat, zl_neg]
/-- ends of a span: a number of the format, or endless -/
def fin (e m : Nat) (a : Int) : Prop := a.natAbs ≤ mo e m ∧ rd m a.natAbs = a.natAbs
def elo (e m : Nat) (a : Int) : Prop := a = -1152921504606846976 ∨ fin e m a
def ehi (e m : Nat) (a : Int) : Prop := a = 1152921504606846976 ∨ fin e m a
/-- what is reckoned: endless, or small enough -/
def glo (a : Int) : Prop := a = -1152921504606846976 ∨ (-1125899906842624 < a ∧ a < 1125899906842624)
def ghi (a : Int) : Prop := a = 1152921504606846976 ∨ (-1125899906842624 < a ∧ a < 1125899906842624)
section RND
variable {e m : Nat} (he : e ≤ 4) (hm : m ≤ 10)
theorem fin_neg {e m : Nat} {a : Int} (h : fin e m a) : fin e m (-a) := by
  unfold fin at h ⊢
  rw [Int.natAbs_neg]
  exact h
theorem elo_neg {e m : Nat} {a : Int} (h : elo e m a) : ehi e m (-a) := by
  rcases h with h | h
  · left; omega
  · exact Or.inr (fin_neg h)
theorem ehi_neg {e m : Nat} {a : Int} (h : ehi e m a) : elo e m (-a) := by
  rcases h with h | h
  · left; omega
  · exact Or.inr (fin_neg h)
theorem glo_neg {a : Int} (h : glo a) : ghi (-a) := by unfold glo at h; unfold ghi; omega
theorem ghi_neg {a : Int} (h : ghi a) : glo (-a) := by unfold ghi at h; unfold glo; omega
theorem fin_b {a : Int} (he : e ≤ 4) (hm : m ≤ 10) (h : fin e m a) : -16777216 < a ∧ a < 16777216 := by
  have := mo_lt e m he hm
  have := h.1
  omega
theorem elo_g {a : Int} (he : e ≤ 4) (hm : m ≤ 10) (h : elo e m a) : glo a := by
  rcases h with h | h
  · exact Or.inl h
  · have := fin_b he hm h
    right; omega
theorem ehi_g {a : Int} (he : e ≤ 4) (hm : m ≤ 10) (h : ehi e m a) : ghi a := by
  rcases h with h | h
  · exact Or.inl h
  · have := fin_b he hm h
    right; omega
theorem nA_lo {a : Int} (h : glo a) : elo e m (nA e m a) := by
  unfold nA
  split
  · right
    refine ⟨?_, ?_⟩
    · rw [Int.natAbs_natCast]; exact dn_mo _ _ _
    · rw [Int.natAbs_natCast]; exact dn_rep _ _ _
  · by_cases h9 : (-a).toNat ≤ mo e m
    · right
      refine ⟨?_, ?_⟩
      · rw [Int.natAbs_neg, Int.natAbs_natCast]; exact up_le h9
      · rw [Int.natAbs_neg, Int.natAbs_natCast]; exact up_rep h9
    · left
      unfold up
      rw [if_neg h9]
      rfl
theorem nA_self {a : Int} (he : e ≤ 4) (hm : m ≤ 10) (h : elo e m a) : nA e m a = a := by
  have hmo := mo_lt e m he hm
  unfold nA
  rcases h with h | ⟨h1, h2⟩
  · subst h
    rw [if_neg (by decide)]
    unfold up
    rw [if_neg (by omega)]
    rfl
  · split
    · rename_i h0
      have h3 : a.natAbs = a.toNat := by omega
      rw [h3] at h1 h2
      rw [dn_self h2 h1]
      omega
    · rename_i h0
      have h3 : a.natAbs = (-a).toNat := by omega
      rw [h3] at h1 h2
      rw [up_self h2 h1]
      omega
theorem nA_le {a : Int} (h : -1152921504606846976 ≤ a) : nA e m a ≤ a := by
  unfold nA
  split
  · have := dn_le e m a.toNat
    omega
  · have := up_ge (e := e) (m := m) (n := (-a).toNat) (by omega)
    omega
theorem nA_mono {a b : Int} (he : e ≤ 4) (hm : m ≤ 10) (h : a ≤ b) : nA e m a ≤ nA e m b := by
  unfold nA
  split
  · rw [if_pos (by omega)]
    have := dn_mono (e := e) (m := m) (show a.toNat ≤ b.toNat by omega)
    omega
  · split
    · omega
    · have := up_mono (e := e) (m := m) he hm (show (-b).toNat ≤ (-a).toNat by omega)
      omega
theorem nB_hi {a : Int} (h : ghi a) : ehi e m (nB e m a) := elo_neg (nA_lo (ghi_neg h))
theorem nB_self {a : Int} (he : e ≤ 4) (hm : m ≤ 10) (h : ehi e m a) : nB e m a = a := by
  unfold nB
  rw [nA_self he hm (ehi_neg h)]
  omega
theorem nB_ge {a : Int} (h : a ≤ 1152921504606846976) : a ≤ nB e m a := by
  unfold nB
  have := nA_le (e := e) (m := m) (a := -a) (by omega)
  omega
theorem nB_mono {a b : Int} (he : e ≤ 4) (hm : m ≤ 10) (h : a ≤ b) : nB e m a ≤ nB e m b := by
  unfold nB
  have := nA_mono (e := e) (m := m) (a := -b) (b := -a) he hm (by omega)
  omega
end RND
