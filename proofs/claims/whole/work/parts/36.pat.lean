-- patterns and numbers
theorem n31 {k : Nat} (hk : k < 32) : ((nI k &&& 31).toBitVec.smod 32).toNat = k := by
  have h : ∀ k, k < 32 → ((nI k &&& 31).toBitVec.smod 32).toNat = k := by decide +kernel
  exact h k hk
theorem nI_shl {n k : Nat} (hk : k < 32) (h : n * 2 ^ k < 2 ^ 32) : nI n <<< (nI k &&& 31) = nI (n * 2 ^ k) := pk_shlN _ k (n31 hk) h
theorem nI_shr {n k : Nat} (hn : n < 2 ^ 31) (hk : k < 32) : nI n >>> (nI k &&& 31) = nI (n / 2 ^ k) := pk_shrN hn _ k (n31 hk)
theorem nI_mask {n k : Nat} (hn : n < 2 ^ 32) (hk : k ≤ 31) : nI n &&& nI (2 ^ k - 1) = nI (n % 2 ^ k) := by
  refine pk_andN hn k ?_
  have : 2 ^ k ≤ 2 ^ 31 := p2_le hk
  exact pk_tn (by omega)
theorem nI_and {a b : Nat} (ha : a < 2 ^ 32) (hb : b < 2 ^ 32) : nI a &&& nI b = nI (a &&& b) := by
  apply Int32.toBitVec_inj.mp
  rw [Int32.toBitVec_and]
  apply BitVec.eq_of_toNat_eq
  rw [BitVec.toNat_and, pk_tn ha, pk_tn hb, pk_tn (Nat.and_lt_two_pow _ hb)]
theorem nI_or {a b : Nat} (ha : a < 2 ^ 32) (hb : b < 2 ^ 32) : nI a ||| nI b = nI (a ||| b) := by
  apply Int32.toBitVec_inj.mp
  rw [Int32.toBitVec_or]
  apply BitVec.eq_of_toNat_eq
  rw [BitVec.toNat_or, pk_tn ha, pk_tn hb, pk_tn (Nat.or_lt_two_pow ha hb)]
theorem and_bit {u k : Nat} (h : u < 2 ^ (k + 1)) : u &&& 2 ^ k = 0 ↔ u < 2 ^ k := by
  have hp := p2_pos k
  by_cases h1 : u < 2 ^ k
  · refine ⟨fun _ => h1, fun _ => ?_⟩
    apply Nat.eq_of_testBit_eq
    intro i
    rw [Nat.testBit_and, Nat.testBit_two_pow, Nat.zero_testBit]
    by_cases hi : k = i
    · subst hi
      rw [Nat.testBit_lt_two_pow h1, Bool.false_and]
    · rw [decide_eq_false hi, Bool.and_false]
  · refine ⟨fun h2 => ?_, fun h2 => absurd h2 h1⟩
    have h4 : u / 2 ^ k = 1 := by
      rw [Nat.pow_succ] at h
      have a : 1 ≤ u / 2 ^ k := by rw [Nat.le_div_iff_mul_le hp]; omega
      have b : u / 2 ^ k < 2 := Nat.div_lt_of_lt_mul (by omega)
      omega
    have h3 : (u &&& 2 ^ k).testBit k = true := by
      rw [Nat.testBit_and, Nat.testBit_two_pow, decide_eq_true rfl, Bool.and_true, Nat.testBit_eq_decide_div_mod_eq, h4]
      rfl
    rw [h2, Nat.zero_testBit] at h3
    cases h3
theorem or_bit {u k : Nat} (h : u < 2 ^ k) : 2 ^ k ||| u = 2 ^ k + u := by
  have := Nat.two_pow_add_eq_or_of_lt h 1
  rw [Nat.mul_one] at this
  exact this.symm
section PAT
variable {c : cw_C} {M : mw_C} {e m : Nat}
theorem em14 (he : 2 ≤ e ∧ e ≤ 4) (hm : 1 ≤ m ∧ m ≤ 10) : 2 ^ (e + m) ≤ 16384 := p2_le (b := 14) (by omega)
theorem ep_lt (he : 2 ≤ e ∧ e ≤ 4) : (2 ^ e - 1) * 2 ^ m < 2 ^ (e + m) := by
  rw [Nat.pow_add]
  exact (Nat.mul_lt_mul_right (p2_pos m)).mpr (by have := p2_pos e; omega)
theorem ms_sign (h : mwd M e m) : (1 : Int32) <<< ((M.1.2.1 + M.1.2.2) &&& 31) = nI (2 ^ (e + m)) := by
  rw [h.1.1, h.1.2, nI_add, show (1 : Int32) = nI 1 from rfl, nI_shl (by have := h.2; omega) (by have := em14 h.2.1 h.2.2; omega), Nat.one_mul]
theorem nI_pr2 {k : Nat} : nI (2 ^ k) - (1 : Int32) = nI (2 ^ k - 1) := pk_sub (b := 1) (p2_pos k)
def isp (e m : Nat) (x : Int32) : Prop := ∃ u : Nat, x = nI u ∧ u < 2 ^ (e + m + 1) ∧ u % 2 ^ (e + m) ≤ (2 ^ e - 1) * 2 ^ m
theorem cs_isPat (h : cwd c e m) (x : Int32) : (isp e m x ∧ F_isPattern c x = 1) ∨ (¬ isp e m x ∧ F_isPattern c x = 0) := by
  have h14 := em14 h.2.1 h.2.2
  have hep := ep_lt (m := m) h.2.1
  unfold F_isPattern
  by_cases h0 : x < 0
  · refine Or.inr ⟨?_, if_pos h0⟩
    rintro ⟨u, hu, h1, -⟩
    rw [Nat.pow_succ] at h1
    rw [hu, show (0 : Int32) = nI 0 from rfl, nI_ltI (by omega) (by omega)] at h0
    omega
  · rw [if_neg h0]
    obtain ⟨u, hu, rfl⟩ := nI_of h0
    rw [cs_sign h, show (2 : Int32) * nI (2 ^ (e + m)) = nI (2 * 2 ^ (e + m)) from pk_mul 2 _, nI_pr2, nI_mask (by omega) (by have := h.2; omega), cs_end h]
    have hr : u % 2 ^ (e + m) < 2 ^ (e + m) := Nat.mod_lt _ (p2_pos _)
    by_cases h1 : 2 * 2 ^ (e + m) ≤ u
    · rw [if_pos ((nI_leI (by omega) (by omega)).mpr h1)]
      refine Or.inr ⟨?_, rfl⟩
      rintro ⟨v, hv, h2, -⟩
      rw [Nat.pow_succ] at h2
      have := (nI_eq (by omega) (by omega)).mp hv
      omega
    · rw [if_neg (fun q => h1 ((nI_leI (by omega) (by omega)).mp q))]
      by_cases h2 : (2 ^ e - 1) * 2 ^ m < u % 2 ^ (e + m)
      · rw [if_pos ((nI_ltI (by omega) (by omega)).mpr h2)]
        refine Or.inr ⟨?_, rfl⟩
        rintro ⟨v, hv, h3, h4⟩
        rw [Nat.pow_succ] at h3
        have := (nI_eq (by omega) (by omega)).mp hv
        subst this
        omega
      · rw [if_neg (fun q => h2 ((nI_ltI (by omega) (by omega)).mp q))]
        exact Or.inl ⟨⟨u, rfl, by rw [Nat.pow_succ]; omega, by omega⟩, rfl⟩
theorem ms_isPat (h : mwd M e m) (x : Int32) : (isp e m x ∧ F_m_isPattern M x = 1) ∨ (¬ isp e m x ∧ F_m_isPattern M x = 0) := by
  have h14 := em14 h.2.1 h.2.2
  have hep := ep_lt (m := m) h.2.1
  unfold F_m_isPattern
  by_cases h0 : x < 0
  · refine Or.inr ⟨?_, if_pos h0⟩
    rintro ⟨u, hu, h1, -⟩
    rw [Nat.pow_succ] at h1
    rw [hu, show (0 : Int32) = nI 0 from rfl, nI_ltI (by omega) (by omega)] at h0
    omega
  · rw [if_neg h0]
    obtain ⟨u, hu, rfl⟩ := nI_of h0
    rw [ms_sign h, nI_pr2, nI_mask (by omega) (by have := h.2; omega), ms_end h, h.1.1, h.1.2, show (1 : Int32) + nI e + nI m = nI (e + m + 1) by rw [show (1 : Int32) = nI 1 from rfl, nI_add, nI_add]; congr 1; omega, nI_shr hu (by have := h.2; omega)]
    have hr : u % 2 ^ (e + m) < 2 ^ (e + m) := Nat.mod_lt _ (p2_pos _)
    have hq : u / 2 ^ (e + m + 1) ≤ u := Nat.div_le_self _ _
    by_cases h1 : u / 2 ^ (e + m + 1) = 0
    · rw [if_pos (show nI (u / 2 ^ (e + m + 1)) = (0 : Int32) from (nI_eq (b := 0) (by omega) (by omega)).mpr h1)]
      have h1' : u < 2 ^ (e + m + 1) := by
        rcases Nat.div_eq_zero_iff.mp h1 with h9 | h9
        · have := p2_pos (e + m + 1); omega
        · exact h9
      by_cases h2 : (2 ^ e - 1) * 2 ^ m < u % 2 ^ (e + m)
      · rw [if_pos ((nI_ltI (by omega) (by omega)).mpr h2)]
        refine Or.inr ⟨?_, rfl⟩
        rintro ⟨v, hv, h3, h4⟩
        rw [Nat.pow_succ] at h3
        have := (nI_eq (by omega) (by omega)).mp hv
        subst this
        omega
      · rw [if_neg (fun q => h2 ((nI_ltI (by omega) (by omega)).mp q))]
        exact Or.inl ⟨⟨u, rfl, h1', by omega⟩, rfl⟩
    · rw [if_neg (show ¬ nI (u / 2 ^ (e + m + 1)) = (0 : Int32) from fun q => h1 ((nI_eq (b := 0) (by omega) (by omega)).mp q))]
      refine Or.inr ⟨?_, rfl⟩
      rintro ⟨v, hv, h2, -⟩
      have h2' := h2
      rw [Nat.pow_succ] at h2'
      have := (nI_eq (by omega) (by omega)).mp hv
      subst this
      exact h1 (Nat.div_eq_of_lt h2)
/-- the size that the low bits s name -/
def szo (e m s : Nat) : Nat := if s = (2 ^ e - 1) * 2 ^ m then 1152921504606846976 else if s / 2 ^ m = 0 then s % 2 ^ m else (2 ^ m + s % 2 ^ m) * 2 ^ (s / 2 ^ m - 1)
theorem nI_low {s k : Nat} (hs : s < 2 ^ 31) (hk : k ≤ 10) : (nI s &&& ((1 : Int32) <<< (nI k &&& 31) - 1)).toInt64 = lN (s % 2 ^ k) := by
  have h10 : 2 ^ k ≤ 2 ^ 10 := p2_le hk
  rw [show (1 : Int32) <<< (nI k &&& 31) = nI (1 * 2 ^ k) from nI_shl (n := 1) (by omega) (by omega), Nat.one_mul, nI_pr2, nI_mask (by omega) (by omega)]
  have hr : s % 2 ^ k < 2 ^ k := Nat.mod_lt _ (p2_pos _)
  exact nI_l (by omega)
theorem e16 (he : 2 ≤ e ∧ e ≤ 4) : 2 ^ e ≤ 16 := p2_le (b := 4) he.2
theorem s_q (he : 2 ≤ e ∧ e ≤ 4) {s : Nat} (hs : s ≤ (2 ^ e - 1) * 2 ^ m) : s / 2 ^ m ≤ 15 := by
  have := e16 he
  refine Nat.le_trans (Nat.div_le_of_le_mul (m := s) (k := 2 ^ m) (n := 2 ^ e - 1) (by rw [Nat.mul_comm]; exact hs)) (by omega)
theorem cs_sizeOf (h : cwd c e m) {s : Nat} (hs : s ≤ (2 ^ e - 1) * 2 ^ m) : F_sizeOf c (nI s) = lN (szo e m s) := by
  have h14 := em14 h.2.1 h.2.2
  have hep := ep_lt (m := m) h.2.1
  have hq := s_q h.2.1 hs
  unfold F_sizeOf szo
  rw [cs_end h, h.1.2, nI_low (by omega) h.2.2.2, nI_shr (by omega) (by have := h.2; omega)]
  by_cases h0 : s = (2 ^ e - 1) * 2 ^ m
  · rw [if_pos h0, if_pos (by rw [h0])]
    rfl
  · rw [if_neg h0, if_neg (fun q => h0 ((nI_eq (by omega) (by omega)).mp q))]
    by_cases h1 : s / 2 ^ m = 0
    · rw [if_pos h1, if_pos (show nI (s / 2 ^ m) = (0 : Int32) by rw [h1]; rfl)]
    · rw [if_neg h1, if_neg (show ¬ nI (s / 2 ^ m) = (0 : Int32) from fun q => h1 ((nI_eq (b := 0) (by omega) (by omega)).mp q)),
        show (1 : Int64) <<< ((nI m).toInt64 &&& 63) = lN (1 * 2 ^ m) from ln_shl 1 (by have := h.2; omega), Nat.one_mul, lN_add, show nI (s / 2 ^ m) - (1 : Int32) = nI (s / 2 ^ m - 1) from pk_sub (b := 1) (Nat.pos_of_ne_zero h1), ln_shl _ (by omega)]
theorem ms_num3 (h : mwd M e m) {x : Int32} {s : Nat} (hs : s ≤ (2 ^ e - 1) * 2 ^ m) (hx : x &&& (((1 : Int32) <<< ((M.1.2.1 + M.1.2.2) &&& 31)) - (1 : Int32)) = nI s) : A_m_number_3 M x = zL (ph (szo e m s : Int)) := by
  have h14 := em14 h.2.1 h.2.2
  have hep := ep_lt (m := m) h.2.1
  have hq := s_q h.2.1 hs
  have hb : szo e m s ≠ 1152921504606846976 ∨ s = (2 ^ e - 1) * 2 ^ m := by
    by_cases h0 : s = (2 ^ e - 1) * 2 ^ m
    · exact Or.inr h0
    · left
      unfold szo
      rw [if_neg h0]
      have hr : s % 2 ^ m < 2 ^ m := Nat.mod_lt _ (p2_pos _)
      have h10 : 2 ^ m ≤ 2 ^ 10 := p2_le h.2.2.2
      split
      · omega
      · have h9 : 2 ^ (s / 2 ^ m - 1) ≤ 2 ^ 15 := p2_le (by omega)
        have h8 : (2 ^ m + s % 2 ^ m) * 2 ^ (s / 2 ^ m - 1) ≤ 2048 * 2 ^ 15 := Nat.mul_le_mul (by omega) h9
        omega
  unfold A_m_number_3 A_m_number_2 I_m_number_1
  rw [hx, ms_end h, h.1.2, nI_low (by omega) h.2.2.2, nI_shr (by omega) (by have := h.2; omega)]
  by_cases h0 : s = (2 ^ e - 1) * 2 ^ m
  · rw [if_pos (by rw [h0])]
    unfold szo ph
    rw [if_pos h0, if_pos (show ((1152921504606846976 : Nat) : Int) = 1152921504606846976 from rfl)]
    rfl
  · rw [if_neg (fun q => h0 ((nI_eq (by omega) (by omega)).mp q))]
    have hp : ph (szo e m s : Int) = (szo e m s : Int) := by
      unfold ph
      rw [if_neg (by rcases hb with hb | hb <;> omega), if_neg (by omega)]
    rw [hp, zl_nat]
    unfold szo
    rw [if_neg h0]
    by_cases h1 : s / 2 ^ m = 0
    · rw [if_pos h1, if_pos (show nI (s / 2 ^ m) = (0 : Int32) by rw [h1]; rfl)]
    · rw [if_neg h1, if_neg (show ¬ nI (s / 2 ^ m) = (0 : Int32) from fun q => h1 ((nI_eq (b := 0) (by omega) (by omega)).mp q)),
        show (1 : Int64) <<< ((nI m).toInt64 &&& 63) = lN (1 * 2 ^ m) from ln_shl 1 (by have := h.2; omega), Nat.one_mul, lN_add, show nI (s / 2 ^ m) - (1 : Int32) = nI (s / 2 ^ m - 1) from pk_sub (b := 1) (Nat.pos_of_ne_zero h1), ln_shl _ (by omega), Nat.add_comm]
theorem szo_fin (he : 2 ≤ e ∧ e ≤ 4) {s : Nat} (hs : s < (2 ^ e - 1) * 2 ^ m) : szo e m s ≤ mo e m ∧ rd m (szo e m s) = szo e m s := by
  have hr : s % 2 ^ m < 2 ^ m := Nat.mod_lt _ (p2_pos _)
  have hp := p2_pos m
  have h1 : ∃ k t, szo e m s = k * 2 ^ t ∧ k < 2 ^ (m + 1) ∧ (t = 0 ∨ 2 ^ m ≤ k) ∧ t ≤ 2 ^ e - 3 := by
    unfold szo
    rw [if_neg (by omega)]
    by_cases h0 : s / 2 ^ m = 0
    · rw [if_pos h0]
      exact ⟨s % 2 ^ m, 0, by rw [Nat.pow_zero, Nat.mul_one], by rw [Nat.pow_succ]; omega, Or.inl rfl, by omega⟩
    · rw [if_neg h0]
      refine ⟨2 ^ m + s % 2 ^ m, s / 2 ^ m - 1, rfl, by rw [Nat.pow_succ]; omega, Or.inr (by omega), ?_⟩
      have : s / 2 ^ m < 2 ^ e - 1 := Nat.div_lt_of_lt_mul (by rw [Nat.mul_comm]; exact hs)
      omega
  obtain ⟨k, t, h2, h3, h4, h5⟩ := h1
  rw [h2]
  refine ⟨?_, (rep_of h3 h4).2⟩
  unfold mo
  refine Nat.mul_le_mul ?_ (p2_le h5)
  rw [Nat.pow_succ] at h3
  omega
/-- the number that the pattern u names -/
def nmo (e m u : Nat) : Int := if u < 2 ^ (e + m) then (szo e m (u % 2 ^ (e + m)) : Int) else -(szo e m (u % 2 ^ (e + m)) : Int)
theorem cs_num (h : cwd c e m) {u : Nat} (h1 : u < 2 ^ (e + m + 1)) (h2 : u % 2 ^ (e + m) ≤ (2 ^ e - 1) * 2 ^ m) : F_numberOf c (nI u) = zL (nmo e m u) := by
  have h14 := em14 h.2.1 h.2.2
  have h3 := h1
  rw [Nat.pow_succ] at h3
  unfold F_numberOf nmo
  rw [cs_sign h, nI_pr2, nI_mask (by omega) (by have := h.2; omega), cs_sizeOf h h2, nI_and (by omega) (by omega)]
  have hb := and_bit h1
  have hle : u &&& 2 ^ (e + m) ≤ u := Nat.and_le_left
  by_cases h0 : u < 2 ^ (e + m)
  · rw [if_pos h0, if_pos (show nI (u &&& 2 ^ (e + m)) = (0 : Int32) by rw [hb.mpr h0]; rfl), zl_nat]
  · rw [if_neg h0, if_neg (show ¬ nI (u &&& 2 ^ (e + m)) = (0 : Int32) from fun q => h0 (hb.mp ((nI_eq (b := 0) (by omega) (by omega)).mp q))), ← zl_nat, zl_neg]
theorem ms_num (h : mwd M e m) {u : Nat} (h1 : u < 2 ^ (e + m + 1)) (h2 : u % 2 ^ (e + m) ≤ (2 ^ e - 1) * 2 ^ m) : F_m_number M (nI u) = zL (ph (nmo e m u)) := by
  have h14 := em14 h.2.1 h.2.2
  have h3 := h1
  rw [Nat.pow_succ] at h3
  have hx : nI u &&& (((1 : Int32) <<< ((M.1.2.1 + M.1.2.2) &&& 31)) - (1 : Int32)) = nI (u % 2 ^ (e + m)) := by
    rw [ms_sign h, nI_pr2, nI_mask (by omega) (by have := h.2; omega)]
  unfold F_m_number nmo
  rw [ms_num3 h h2 hx, hx]
  have hle : u % 2 ^ (e + m) ≤ u := Nat.mod_le _ _
  have hlt : u % 2 ^ (e + m) < 2 ^ (e + m) := Nat.mod_lt _ (p2_pos _)
  by_cases h0 : u < 2 ^ (e + m)
  · rw [if_pos h0, if_pos (by rw [Nat.mod_eq_of_lt h0])]
  · rw [if_neg h0, if_neg (fun q => h0 (by have := (nI_eq (by omega) (by omega)).mp q; omega)), ph_neg, zl_neg]
theorem nmo_end (he : 2 ≤ e ∧ e ≤ 4) {u : Nat} (h2 : u % 2 ^ (e + m) ≤ (2 ^ e - 1) * 2 ^ m) : nmo e m u = 1152921504606846976 ∨ nmo e m u = -1152921504606846976 ∨ fin e m (nmo e m u) := by
  by_cases h0 : u % 2 ^ (e + m) = (2 ^ e - 1) * 2 ^ m
  · have hz : szo e m (u % 2 ^ (e + m)) = 1152921504606846976 := by unfold szo; rw [if_pos h0]
    unfold nmo
    rw [hz]
    split
    · left; rfl
    · right; left; rfl
  · have hz := szo_fin (m := m) he (s := u % 2 ^ (e + m)) (by omega)
    right; right
    unfold nmo fin
    split
    · rw [Int.natAbs_natCast]; exact hz
    · rw [Int.natAbs_neg, Int.natAbs_natCast]; exact hz
/-- the pattern of a size -/
def pao (e m n : Nat) : Nat := if n = 1152921504606846976 then (2 ^ e - 1) * 2 ^ m else xb m n * 2 ^ m + n / 2 ^ xb m n
theorem pao_lt (he : 2 ≤ e ∧ e ≤ 4) {n : Nat} (h : n = 1152921504606846976 ∨ n ≤ mo e m) : pao e m n ≤ (2 ^ e - 1) * 2 ^ m := by
  unfold pao
  split
  · exact Nat.le_refl _
  · rename_i h0
    have hn : n ≤ mo e m := by omega
    have h4 : 4 ≤ 2 ^ e := p2_le (a := 2) he.1
    have hx : xb m n ≤ 2 ^ e - 3 := by
      refine Nat.le_of_not_lt (fun q => ?_)
      have h1 := xb_ge (m := m) (n := n) (by omega)
      have h2 : 2 ^ (m + 1 + (2 ^ e - 3)) ≤ 2 ^ (m + xb m n) := p2_le (by omega)
      have h3 : mo e m < 2 ^ (m + 1 + (2 ^ e - 3)) := by
        unfold mo
        rw [Nat.pow_add 2 (m + 1)]
        refine (Nat.mul_lt_mul_right (p2_pos _)).mpr ?_
        rw [Nat.pow_succ]
        have := p2_pos m
        omega
      omega
    have h1 := xb_q m n
    rw [Nat.pow_succ] at h1
    have h2 : xb m n * 2 ^ m ≤ (2 ^ e - 3) * 2 ^ m := Nat.mul_le_mul_right _ hx
    have h3 : (2 ^ e - 1) * 2 ^ m = (2 ^ e - 3) * 2 ^ m + 2 * 2 ^ m := by rw [← Nat.add_mul]; congr 1; omega
    omega
theorem cs_uns (h : cwd c e m) {n : Nat} (hn : n = 1152921504606846976 ∨ n ≤ mo e m) : F_unsignedOf c (lN n) = nI (pao e m n) := by
  have hmo := mo_lt e m h.2.1.2 h.2.2.2
  have hp := pao_lt h.2.1 hn
  have h14 := em14 h.2.1 h.2.2
  have hep := ep_lt (m := m) h.2.1
  unfold F_unsignedOf
  unfold pao at hp ⊢
  by_cases h0 : n = 1152921504606846976
  · rw [if_pos (show lN n = cw_inf by rw [h0]; rfl), if_pos h0, cs_end h]
  · rw [if_neg h0] at hp
    have hx := xb_62 (m := m) (n := n) h.2.2.1 (by omega)
    rw [if_neg (show ¬ lN n = cw_inf from fun q => h0 ((pk_lEQ (b := 1152921504606846976) (by omega) (by omega)).mp q)), if_neg h0, cs_extra h (by omega), h.1.2, nI_shl (by have := h.2; omega) (Nat.lt_of_le_of_lt (Nat.le_trans (Nat.le_add_right _ _) hp) (by omega)), ln_shr (by omega) (by omega), lN_i, nI_add]
/-- the pattern of a number -/
def pat (e m : Nat) (a : Int) : Nat := if 0 ≤ a then pao e m a.natAbs else 2 ^ (e + m) + pao e m a.natAbs
theorem fin_n {a : Int} (h : a = 1152921504606846976 ∨ a = -1152921504606846976 ∨ fin e m a) : a.natAbs = 1152921504606846976 ∨ a.natAbs ≤ mo e m := by
  rcases h with h | h | h
  · left; omega
  · left; omega
  · exact Or.inr h.1
theorem cs_pat (h : cwd c e m) {a : Int} (ha : a = 1152921504606846976 ∨ a = -1152921504606846976 ∨ fin e m a) : F_patternOf c (zL a) = nI (pat e m a) := by
  have hmo := mo_lt e m h.2.1.2 h.2.2.2
  have hn := fin_n ha
  have hp := pao_lt h.2.1 hn
  have h14 := em14 h.2.1 h.2.2
  have hep := ep_lt (m := m) h.2.1
  unfold F_patternOf pat
  by_cases h0 : 0 ≤ a
  · rw [if_pos h0, if_pos ((zl_0le (by unfold zR; omega)).mpr h0)]
    have : zL a = lN a.natAbs := by rw [← zl_nat]; congr 1; omega
    rw [this, cs_uns h hn]
  · rw [if_neg h0, if_neg (fun q => h0 ((zl_0le (by unfold zR; omega)).mp q))]
    have : -zL a = lN a.natAbs := by rw [← zl_nat, zl_neg]; congr 1; omega
    rw [this, cs_uns h hn, cs_sign h, nI_or (by omega) (by omega), or_bit (by omega)]
theorem ms_pat (h : mwd M e m) {a : Int} (ha : a = 1152921504606846976 ∨ a = -1152921504606846976 ∨ fin e m a) : F_m_pattern M (zL (ph a)) = nI (pat e m a) := by
  have hmo := mo_lt e m h.2.1.2 h.2.2.2
  have hn := fin_n ha
  have hp := pao_lt h.2.1 hn
  have h14 := em14 h.2.1 h.2.2
  have hep := ep_lt (m := m) h.2.1
  have hpb : zR (ph a) ∧ (0 ≤ ph a ↔ 0 ≤ a) := by
    unfold ph zR
    split
    · omega
    · split <;> omega
  have hs : (if (0 : Int64) ≤ zL (ph a) then zL (ph a) else -zL (ph a)) = lN (ph a).natAbs := by
    by_cases h0 : 0 ≤ ph a
    · rw [if_pos ((zl_0le hpb.1).mpr h0), ← zl_nat]; congr 1; omega
    · rw [if_neg (fun q => h0 ((zl_0le hpb.1).mp q)), ← zl_nat, zl_neg]; congr 1; omega
  have h2 : I_m_pattern_2 M (zL (ph a)) = nI (pao e m a.natAbs) := by
    unfold I_m_pattern_2 I_m_pattern_1
    rw [hs]
    by_cases hE : a.natAbs = 1152921504606846976
    · have : (ph a).natAbs = 1125899906842624 := by
        unfold ph
        split
        · rfl
        · rw [if_pos (by omega)]; rfl
      rw [this, if_neg (by decide), ms_end h]
      unfold pao
      rw [if_pos hE]
    · have hpa : ph a = a := ph_id (by omega) (by omega)
      rw [hpa]
      have hn' : a.natAbs ≤ mo e m := by omega
      generalize a.natAbs = n at *
      have hx := xb_62 (m := m) (n := n) h.2.2.1 (by omega)
      have hm := h.2.2
      have hdv : n / 2 ^ m ≤ n := Nat.div_le_self _ _
      rw [if_pos (show lN n < mw_far from (pk_lLT (b := 1125899906842624) (by omega) (by omega)).mpr (by omega)), h.1.2, ln_shr (by omega) (by omega)]
      unfold pao at hp ⊢
      rw [if_neg hE] at hp ⊢
      have hl := blen_xb (m := m) (n := n)
      by_cases h0 : n / 2 ^ m = 0
      · rw [if_pos (show lN (n / 2 ^ m) = (0 : Int64) by rw [h0]; rfl), lN_i]
        have hlt : n < 2 ^ m := by
          rcases Nat.div_eq_zero_iff.mp h0 with h9 | h9
          · have := p2_pos m; omega
          · exact h9
        have hx0 : xb m n = 0 := xb_un (by rw [Nat.add_zero, Nat.pow_succ]; omega) (Or.inl rfl)
        rw [hx0, Nat.zero_mul, Nat.pow_zero, Nat.div_one, Nat.zero_add]
      · rw [if_neg (show ¬ lN (n / 2 ^ m) = (0 : Int64) from fun q => h0 ((pk_lEQ (b := 0) (by omega) (by omega)).mp q)), ms_len (by omega)]
        have hge : 2 ^ m ≤ n := by
          refine Nat.le_of_not_lt (fun q => h0 (Nat.div_eq_of_lt q))
        have hn0 : n ≠ 0 := by have := p2_pos m; omega
        have hlm : m ≤ n.log2 := Nat.le_of_not_lt (fun q => by
          have := (Nat.log2_lt hn0).mp q
          omega)
        have hbl : blen n = xb m n + m + 1 := by unfold blen xb; rw [if_neg hn0]; omega
        have hp2 : xb m n * 2 ^ m < 2 ^ 31 := Nat.lt_of_le_of_lt (Nat.le_trans (Nat.le_add_right _ _) hp) (by omega)
        have h10 : 2 ^ m ≤ 2 ^ 10 := p2_le hm.2
        rw [hbl, pk_sub (by omega), show xb m n + m + 1 - m = xb m n + 1 by omega, show nI (xb m n + 1) - (1 : Int32) = nI (xb m n) from pk_sub (b := 1) (by omega), nI_1,
          nI_shl (by omega) (by rw [Nat.succ_mul]; omega), ln_shr (by omega) (by omega), lN_i]
        generalize n / 2 ^ xb m n = q9
        rw [nI_add, show (1 : Int32) <<< (nI m &&& 31) = nI (1 * 2 ^ m) from nI_shl (n := 1) (by omega) (by omega), Nat.one_mul, pk_sub (by rw [Nat.succ_mul]; omega), Nat.succ_mul]
        congr 1
        omega
  unfold F_m_pattern pat
  rw [h2]
  by_cases h0 : 0 ≤ a
  · rw [if_pos h0, if_pos ((zl_0le hpb.1).mpr (hpb.2.mpr h0))]
  · rw [if_neg h0, if_neg (fun q => h0 (hpb.2.mp ((zl_0le hpb.1).mp q))), ms_sign h, nI_add, Nat.add_comm]
end PAT
