theorem yb_tb (n : Nat) : (lN n).toBitVec = BitVec.ofNat 64 n := rfl
theorem yb_inj {a b : Int64} (h : a.toBitVec = b.toBitVec) : a = b := Int64.toBitVec_inj.mp h
theorem yb_tn {n : Nat} (h : n < 2 ^ 64) : (lN n).toBitVec.toNat = n := by rw [yb_tb, BitVec.toNat_ofNat, Nat.mod_eq_of_lt h]
theorem yb_of (x : Int64) : ∃ n, n < 2 ^ 64 ∧ x = lN n := ⟨x.toBitVec.toNat, x.toBitVec.isLt, yb_inj (by rw [yb_tb]; simp)⟩
theorem yb_of32 (x : Int32) : ∃ n, n < 2 ^ 32 ∧ x = nI n := ⟨x.toBitVec.toNat, x.toBitVec.isLt, Int32.toBitVec_inj.mp (by show _ = BitVec.ofNat 32 _; simp)⟩
theorem yb_c : ∀ k, k < 64 → ((nI k).toInt64 &&& 63) = lN k := by decide +kernel
theorem yb_sm : ∀ k, k < 64 → (BitVec.ofNat 64 k).smod 64 = BitVec.ofNat 64 k := by decide +kernel
theorem yb_shl (n : Nat) {k : Nat} (hk : k < 64) : lN n <<< ((nI k).toInt64 &&& 63) = lN (n * 2 ^ k) := by
  rw [yb_c k hk]
  apply yb_inj
  rw [Int64.toBitVec_shiftLeft, yb_tb, yb_tb, yb_tb, yb_sm k hk]
  apply BitVec.eq_of_toNat_eq
  rw [BitVec.shiftLeft_eq', BitVec.toNat_shiftLeft, BitVec.toNat_ofNat, BitVec.toNat_ofNat, BitVec.toNat_ofNat, Nat.mod_eq_of_lt (show k < 2 ^ 64 by omega), Nat.shiftLeft_eq, Nat.mul_mod, Nat.mod_mod, ← Nat.mul_mod]
-- whole numbers in 64 bits
def zL (a : Int) : Int64 := Int64.ofInt a
def zR (a : Int) : Prop := -4611686018427387904 ≤ a ∧ a ≤ 4611686018427387904
theorem zl_add (a b : Int) : zL a + zL b = zL (a + b) := (Int64.ofInt_add a b).symm
theorem zl_sub (a b : Int) : zL a - zL b = zL (a - b) := (Int64.ofInt_sub a b).symm
theorem zl_mul (a b : Int) : zL a * zL b = zL (a * b) := (Int64.ofInt_mul a b).symm
theorem zl_neg (a : Int) : -zL a = zL (-a) := (Int64.ofInt_neg a).symm
theorem zl_nat (n : Nat) : zL (n : Int) = lN n := rfl
theorem zl_t {a : Int} (h : zR a) : (zL a).toInt = a := Int64.toInt_ofInt_of_le (by have := h.1; show -9223372036854775808 ≤ a; omega) (by have := h.2; show a < 9223372036854775808; omega)
theorem zl_of (x : Int64) : x = zL x.toInt := (Int64.ofInt_toInt x).symm
theorem zl_le {a b : Int} (ha : zR a) (hb : zR b) : zL a ≤ zL b ↔ a ≤ b := by rw [Int64.le_iff_toInt_le, zl_t ha, zl_t hb]
theorem zl_lt {a b : Int} (ha : zR a) (hb : zR b) : zL a < zL b ↔ a < b := by rw [Int64.lt_iff_toInt_lt, zl_t ha, zl_t hb]
theorem zl_eq {a b : Int} (ha : zR a) (hb : zR b) : zL a = zL b ↔ a = b := by rw [← Int64.toInt_inj, zl_t ha, zl_t hb]
theorem zl_0 : (0 : Int64) = zL 0 := rfl
theorem zl_1 : (1 : Int64) = zL 1 := rfl
theorem zl_2 : (2 : Int64) = zL 2 := rfl
theorem zl_inf : cw_inf = zL 1152921504606846976 := rfl
theorem zl_far : mw_far = zL 1125899906842624 := rfl
theorem zr_0 : zR 0 := by unfold zR; omega
theorem zr_1 : zR 1 := by unfold zR; omega
theorem zr_neg {a : Int} (h : zR a) : zR (-a) := by unfold zR at h ⊢; omega
theorem yb_at {k : Nat} (hk : k < 64) : (((nI k).toInt64 &&& 63).toBitVec.smod 64).toNat = k := by
  rw [yb_c k hk, yb_tb, yb_sm k hk, BitVec.toNat_ofNat, Nat.mod_eq_of_lt (by omega)]
theorem zl_shr {a : Int} {k : Nat} (ha : zR a) (hk : k < 64) : zL a >>> ((nI k).toInt64 &&& 63) = zL (a / 2 ^ k) := by
  have hp : (0 : Int) < 2 ^ k := Int.pow_pos (by decide)
  have h1 : zR (a / 2 ^ k) := by
    obtain ⟨h1, h2⟩ := ha
    constructor
    · refine Int.le_ediv_of_mul_le hp ?_
      have : (1 : Int) ≤ 2 ^ k := hp
      generalize (2 : Int) ^ k = P at *
      have h3 : (-4611686018427387904 : Int) * P ≤ -4611686018427387904 * 1 := Int.mul_le_mul_of_nonpos_left (by decide) this
      omega
    · by_cases h0 : 0 ≤ a
      · exact Int.le_trans (Int.ediv_le_self _ h0) h2
      · have := Int.ediv_neg_of_neg_of_pos (Int.not_le.mp h0) hp
        omega
  apply Int64.toInt_inj.mp
  have e : (zL a >>> ((nI k).toInt64 &&& 63)).toInt = (zL a).toInt >>> k := by
    have h2 := yb_at hk
    conv => rhs; rw [← h2]
    exact BitVec.toInt_sshiftRight ..
  rw [e, Int.shiftRight_eq_div_pow, zl_t ha, zl_t h1]
  rfl
theorem zl_shl (a : Int) {k : Nat} (hk : k < 64) : zL a <<< ((nI k).toInt64 &&& 63) = zL (a * 2 ^ k) := by
  obtain ⟨n, -, hn⟩ := yb_of (zL a)
  rw [← zl_mul, hn, yb_shl n hk, ← lN_mul]
  rfl
theorem zl_div {a b : Int} (ha : zR a) (hb : zR b) (h0 : 0 ≤ a) (h1 : 0 < b) : zL a / zL b = zL (a / b) := by
  obtain ⟨n, rfl⟩ := Int.eq_ofNat_of_zero_le h0
  obtain ⟨d, rfl⟩ := Int.eq_ofNat_of_zero_le (Int.le_of_lt h1)
  unfold zR at ha hb
  rw [zl_nat, zl_nat, pk_lDiv (by omega) (by omega) (by omega)]
  rfl
theorem zl_tdiv {a b : Int} (ha : zR a) (hb : zR b) (h0 : a < 0) (h1 : 0 < b) : zL a / zL b = zL (-((-a) / b)) := by
  have hr : zR (-((-a) / b)) := by
    have h2 : (-a) / b ≤ -a := Int.ediv_le_self _ (by omega)
    have h3 : 0 ≤ (-a) / b := Int.ediv_nonneg (by omega) (by omega)
    unfold zR at ha ⊢
    omega
  apply Int64.toInt_inj.mp
  rw [Int64.toInt_div, zl_t ha, zl_t hb, zl_t hr, show a.tdiv b = -((-a) / b) by rw [← Int.tdiv_eq_ediv_of_nonneg (show 0 ≤ -a by omega), Int.neg_tdiv, Int.neg_neg]]
  rw [show Int.bmod (-((-a) / b)) (2 ^ 64) = -((-a) / b) from Int.bmod_eq_of_le (by have := hr.1; show -9223372036854775808 ≤ _; omega) (by have := hr.2; show _ < 9223372036854775808; omega)]
theorem zl_xor {x y : Int64} (hy : 0 ≤ y.toInt) : (0 : Int64) ≤ (x ^^^ y) ↔ 0 ≤ x.toInt := by
  have h1 : (x ^^^ y).toBitVec.msb = (x.toBitVec.msb ^^ y.toBitVec.msb) := by rw [Int64.toBitVec_xor, BitVec.msb_xor]
  rw [BitVec.msb_eq_toInt, BitVec.msb_eq_toInt, BitVec.msb_eq_toInt] at h1
  have h2 : decide ((x ^^^ y).toInt < 0) = (decide (x.toInt < 0) ^^ decide (y.toInt < 0)) := h1
  rw [show decide (y.toInt < 0) = false from decide_eq_false (by omega), Bool.xor_false] at h2
  rw [Int64.le_iff_toInt_le]
  have h3 : (x ^^^ y).toInt < 0 ↔ x.toInt < 0 := by
    constructor
    · intro h
      exact of_decide_eq_true (h2 ▸ decide_eq_true h)
    · intro h
      exact of_decide_eq_true (h2 ▸ decide_eq_true h)
  show 0 ≤ _ ↔ _
  omega
