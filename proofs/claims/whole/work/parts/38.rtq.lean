-- roots
def isq (v r : Nat) : Prop := r * r ≤ v ∧ v < (r + 1) * (r + 1)
theorem isq_un {v a b : Nat} (ha : isq v a) (hb : isq v b) : a = b := by
  rcases Nat.lt_trichotomy a b with h | h | h
  · have := Nat.mul_le_mul (show a + 1 ≤ b from h) (show a + 1 ≤ b from h)
    have := ha.2
    have := hb.1
    omega
  · exact h
  · have := Nat.mul_le_mul (show b + 1 ≤ a from h) (show b + 1 ≤ a from h)
    have := hb.2
    have := ha.1
    omega
theorem rt_loop {v : Nat} (hv : v < 4611686018427387904) : ∀ (j R f : Nat), j ≤ 24 → j + 2 ≤ f → R + 2 ^ (j + 1) ≤ 33554432 → R * R ≤ v → v < (R + 2 ^ (j + 1)) * (R + 2 ^ (j + 1)) → ∃ r, LF_wholeRoot (lN v) f (lN R) (nI j) = lN r ∧ isq v r ∧ r < 33554432 := by
  intro j
  induction j with
  | zero =>
    intro R f h24 hf hb h1 h2
    obtain ⟨f, rfl⟩ : ∃ k, f = k + 2 := ⟨f - 2, by omega⟩
    have hsq : (R + 1) * (R + 1) ≤ 33554432 * 33554432 := Nat.mul_le_mul (by omega) (by omega)
    rw [LF_wholeRoot, if_neg (show ¬ nI 0 < (0 : Int32) by decide), LF_wholeRoot, if_pos (show nI 0 + (-1 : Int32) < (0 : Int32) by decide),
      show (1 : Int64) <<< ((nI 0).toInt64 &&& 63) = lN 1 from ln_shl 1 (k := 0) (by omega), lN_add, lN_mul]
    by_cases h3 : v < (R + 1) * (R + 1)
    · rw [if_pos ((pk_lLT (by omega) (by omega)).mpr h3)]
      exact ⟨R, rfl, ⟨h1, h3⟩, by omega⟩
    · rw [if_neg (fun q => h3 ((pk_lLT (by omega) (by omega)).mp q))]
      exact ⟨R + 1, rfl, ⟨by omega, h2⟩, by omega⟩
  | succ j ih =>
    intro R f h24 hf hb h1 h2
    obtain ⟨f, rfl⟩ : ∃ k, f = k + 1 := ⟨f - 1, by omega⟩
    have hp : 2 ^ (j + 1 + 1) = 2 ^ (j + 1) + 2 ^ (j + 1) := by rw [Nat.pow_succ 2 (j + 1)]; omega
    have hp1 := p2_pos (j + 1)
    have hsq : (R + 2 ^ (j + 1)) * (R + 2 ^ (j + 1)) ≤ 33554432 * 33554432 := Nat.mul_le_mul (by omega) (by omega)
    rw [LF_wholeRoot, if_neg (show ¬ nI (j + 1) < (0 : Int32) from fun q => absurd ((nI_ltI (b := 0) (by omega) (by omega)).mp q) (by omega)), pk_m1,
      show (1 : Int64) <<< ((nI (j + 1)).toInt64 &&& 63) = lN (1 * 2 ^ (j + 1)) from ln_shl 1 (by omega), Nat.one_mul, lN_add, lN_mul]
    by_cases h3 : v < (R + 2 ^ (j + 1)) * (R + 2 ^ (j + 1))
    · rw [if_pos ((pk_lLT (by omega) (by omega)).mpr h3)]
      exact ih R f (by omega) (by omega) (by omega) h1 h3
    · rw [if_neg (fun q => h3 ((pk_lLT (by omega) (by omega)).mp q))]
      refine ih (R + 2 ^ (j + 1)) f (by omega) (by omega) (by omega) (by omega) ?_
      rw [show R + 2 ^ (j + 1) + 2 ^ (j + 1) = R + 2 ^ (j + 1 + 1) by omega]
      exact h2
theorem rt_same (x : Int64) : ∀ (f : Nat) (r : Int64) (i : Int32), LF_m_root x f r i = LF_wholeRoot x f r i := by
  intro f
  induction f with
  | zero => intro r i; rw [LF_m_root, LF_wholeRoot]
  | succ f ih =>
    intro r i
    rw [LF_m_root, LF_wholeRoot, ih]
theorem rt_ex {v : Nat} (hv : v < 1099511627776) : ∃ r, F_wholeRoot (lN v) = lN r ∧ F_m_root (lN v) = lN r ∧ isq v r ∧ r < 33554432 := by
  obtain ⟨r, h1, h2, h3⟩ := rt_loop (v := v) (by omega) 20 0 22 (by omega) (by omega) (by decide) (by omega) (Nat.lt_trans hv (by decide))
  obtain ⟨q, a1, a2, a3⟩ := rt_loop (v := v) (by omega) 24 0 26 (by omega) (by omega) (by decide) (by omega) (Nat.lt_trans hv (by decide))
  have e := isq_un h2 a2
  subst e
  refine ⟨r, h1, ?_, h2, h3⟩
  unfold F_m_root
  rw [rt_same]
  exact a1
-- quotients
def lq (e m : Nat) (x y z : Int) : Int := if x < 0 then (if y ≤ 0 then -1152921504606846976 else if x = -1152921504606846976 then -1152921504606846976 else x * 2 ^ fb e m / y) else if z ≤ 0 then 0 else if z = 1152921504606846976 then 0 else x * 2 ^ fb e m / z
section LQ
variable {c : cw_C} {M : mw_C} {e m : Nat}
theorem pw16 {e m : Nat} (he : 2 ≤ e ∧ e ≤ 4) (hm : 1 ≤ m ∧ m ≤ 10) : (1 : Int) ≤ 2 ^ fb e m ∧ (2 : Int) ^ fb e m ≤ 65536 := by
  have h1 := p2_le (fb_lt he hm)
  have h2 := p2_pos (fb e m)
  have e1 : ((2 ^ fb e m : Nat) : Int) = (2 : Int) ^ fb e m := Int.natCast_pow _ _
  rw [← e1]
  omega
theorem mulp {x P : Int} (hx : -16777216 < x ∧ x < 16777216) (hP : 1 ≤ P ∧ P ≤ 65536) : -1125899906842624 < x * P ∧ x * P < 1125899906842624 := mul_b hx (by omega)
theorem cs_lq (h : cwd c e m) {x y z : Int} (hx : glo x) (hx2 : ge x) (hy : ge y) (hz : ge z) : F_leastQuotient c (zL x) (zL y) (zL z) = zL (lq e m x y z) := by
  have rx := gd_zr (ge_gd hx2)
  have ry := gd_zr (ge_gd hy)
  have rz := gd_zr (ge_gd hz)
  have hf := fb_lt h.2.1 h.2.2
  have hp := pw16 h.2.1 h.2.2
  have ei : zL x = -cw_inf ↔ x = -1152921504606846976 := by rw [zl_inf, zl_neg]; exact zl_eq rx (by unfold zR; omega)
  have ej : zL z = cw_inf ↔ z = 1152921504606846976 := by rw [zl_inf]; exact zl_eq rz (by unfold zR; omega)
  unfold F_leastQuotient lq
  rw [cs_unit h, zl_shl _ (by omega)]
  by_cases h1 : x < 0
  · rw [if_pos ((zl_lt0 rx).mpr h1), if_pos h1]
    by_cases h2 : y ≤ 0
    · rw [if_pos ((zl_le0 ry).mpr h2), if_pos h2]; rfl
    · rw [if_neg (fun q => h2 ((zl_le0 ry).mp q)), if_neg h2]
      by_cases h3 : x = -1152921504606846976
      · rw [if_pos (ei.mpr h3), if_pos h3]; rfl
      · rw [if_neg (fun q => h3 (ei.mp q)), if_neg h3]
        unfold ge at hx2
        have hb := mulp (x := x) (by omega) hp
        exact cs_fd (by unfold zR; omega) ry (by omega)
  · rw [if_neg (fun q => h1 ((zl_lt0 rx).mp q)), if_neg h1]
    by_cases h2 : z ≤ 0
    · rw [if_pos ((zl_le0 rz).mpr h2), if_pos h2]; rfl
    · rw [if_neg (fun q => h2 ((zl_le0 rz).mp q)), if_neg h2]
      by_cases h3 : z = 1152921504606846976
      · rw [if_pos (ej.mpr h3), if_pos h3]; rfl
      · rw [if_neg (fun q => h3 (ej.mp q)), if_neg h3]
        unfold ge at hx2
        unfold glo at hx
        have hb := mulp (x := x) (by omega) hp
        exact cs_fd (by unfold zR; omega) rz (by omega)
theorem lq_gd (he : 2 ≤ e ∧ e ≤ 4) (hm : 1 ≤ m ∧ m ≤ 10) {x y z : Int} (hx : glo x) (hx2 : ge x) : glo (lq e m x y z) := by
  have hp := pw16 he hm
  have key : ∀ d : Int, 0 < d → ¬ x = -1152921504606846976 → glo (x * 2 ^ fb e m / d) := by
    intro d hd h0
    unfold ge at hx2
    unfold glo at hx
    have hb := mulp (x := x) (by omega) hp
    have := dv_gd (x := x * 2 ^ fb e m) (d := d) (by unfold gd; omega) hd
    unfold dv at this
    rw [if_neg (by omega)] at this
    unfold gd at this
    have h2 : x * 2 ^ fb e m / d < 1125899906842624 := by
      generalize x * 2 ^ fb e m = X at *
      by_cases h3 : 0 ≤ X
      · have := Int.ediv_le_self d h3
        omega
      · have := Int.ediv_neg_of_neg_of_pos (Int.not_le.mp h3) hd
        omega
    unfold glo
    omega
  unfold lq
  split
  · split
    · left; rfl
    · split
      · left; rfl
      · exact key y (by omega) (by assumption)
  · split
    · unfold glo; omega
    · split
      · unfold glo; omega
      · refine key z (by omega) ?_
        omega
/-- the reference's quotient, in the cases that a ratio asks for -/
theorem ms_quo (h : mwd M e m) {x y : Int} (hx : ge x) (hy : ge y) (z : Int32) : F_m_quotient M (zL (ph x)) (zL (ph y)) z = if x = 0 then 0 else if x = 1152921504606846976 ∨ x = -1152921504606846976 ∨ y ≤ 0 then (if 0 ≤ x then mw_far else -mw_far) else if y = 1152921504606846976 then 0 else F_m_rounded M (zL (x * 2 ^ fb e m)) (zL y) z := by
  have rx := ph_zr (ge_gd hx)
  have ry := ph_zr (ge_gd hy)
  have sx := ph_sg (ge_gd hx)
  have sy := ph_sg (ge_gd hy)
  have hf := fb_lt h.2.1 h.2.2
  have e1 := mi_end rx
  have e2 := mi_end ry
  rw [ph_end (ge_gd hx)] at e1
  rw [ph_end (ge_gd hy)] at e2
  unfold F_m_quotient
  by_cases h1 : x = 0
  · rw [if_pos ((zl_eq0 rx).mpr (sx.2.2.mpr h1)), if_pos h1]
  · rw [if_neg (fun q => h1 (sx.2.2.mp ((zl_eq0 rx).mp q))), if_neg h1]
    have hs : (if (0 : Int64) ≤ zL (ph x) then mw_far else -mw_far) = (if 0 ≤ x then mw_far else -mw_far) := by
      by_cases h4 : 0 ≤ x
      · rw [if_pos h4, if_pos ((zl_0le rx).mpr (sx.1.mpr h4))]
      · rw [if_neg h4, if_neg (fun q => h4 (sx.1.mp ((zl_0le rx).mp q)))]
    rw [hs]
    by_cases h2 : x = 1152921504606846976 ∨ x = -1152921504606846976
    · rw [if_pos (e1.mpr (fun q => q h2)), if_pos (show x = 1152921504606846976 ∨ x = -1152921504606846976 ∨ y ≤ 0 by omega)]
    · rw [if_neg (fun q => e1.mp q h2)]
      by_cases h3 : y ≤ 0
      · rw [if_neg (fun q => absurd ((zl_0lt ry).mp q) (by have := sy.2.1; omega)), if_pos (show x = 1152921504606846976 ∨ x = -1152921504606846976 ∨ y ≤ 0 by omega)]
      · rw [if_pos ((zl_0lt ry).mpr (by have := sy.2.1; omega)), if_neg (show ¬ (x = 1152921504606846976 ∨ x = -1152921504606846976 ∨ y ≤ 0) by omega)]
        by_cases h4 : y = 1152921504606846976
        · rw [if_pos (e2.mpr (fun q => q (Or.inl h4))), if_pos h4]
        · unfold ge at hx hy
          rw [if_neg (fun q => e2.mp q (by omega)), if_neg h4, ms_fine h, zl_shl _ (by omega), ph_id (a := x) (by omega) (by omega), ph_id (a := y) (by omega) (by omega)]
theorem ms_qlo (h : mwd M e m) {x y z : Int} (hx : glo x) (hx2 : ge x) (hy : glo y) (hy2 : ge y) (hz : ge z) (h0 : 0 < z) : (if (0 : Int64) ≤ zL (ph x) then F_m_quotient M (zL (ph x)) (zL (ph z)) 0 else F_m_quotient M (zL (ph x)) (zL (ph y)) 0) = zL (ph (nA e m (lq e m x (max y 0) z))) := by
  have rx := ph_zr (ge_gd hx2)
  have sx := ph_sg (ge_gd hx2)
  have hp := pw16 h.2.1 h.2.2
  have z0 : zL (ph (nA e m 0)) = 0 := by rw [nA_self h.2.1.2 h.2.2.2 (Or.inr ⟨by simp, by simp [rd]⟩), ph_0]; rfl
  have zi : zL (ph (nA e m (-1152921504606846976))) = -mw_far := by rw [nA_self h.2.1.2 h.2.2.2 (Or.inl rfl)]; rfl
  have hb : ¬ x = -1152921504606846976 → -1125899906842624 < x * 2 ^ fb e m ∧ x * 2 ^ fb e m < 1125899906842624 := by
    intro q
    unfold ge at hx2; unfold glo at hx
    exact mulp (by omega) hp
  by_cases h1 : 0 ≤ x
  · rw [if_pos ((zl_0le rx).mpr (sx.1.mpr h1)), ms_quo h hx2 hz]
    unfold lq
    rw [if_neg (show ¬ x < 0 by omega), if_neg (show ¬ z ≤ 0 by omega)]
    have hx' : ¬ (x = 1152921504606846976 ∨ x = -1152921504606846976 ∨ z ≤ 0) := by unfold glo at hx; omega
    by_cases h2 : x = 0
    · rw [if_pos h2]
      split
      · exact z0.symm
      · rw [h2, Int.zero_mul, Int.zero_ediv, z0]
    · rw [if_neg h2, if_neg hx']
      by_cases h3 : z = 1152921504606846976
      · rw [if_pos h3, if_pos h3, z0]
      · rw [if_neg h3, if_neg h3]
        have hb' := hb (by omega)
        unfold ge at hz
        exact ms_dn h hb'.1 hb'.2 h0 (by omega)
  · rw [if_neg (fun q => h1 (sx.1.mp ((zl_0le rx).mp q))), ms_quo h hx2 hy2, if_neg (show ¬ x = 0 by omega), if_neg h1]
    unfold lq
    rw [if_pos (show x < 0 by omega)]
    by_cases h2 : y ≤ 0
    · rw [if_pos (show max y 0 ≤ 0 by omega), if_pos (show x = 1152921504606846976 ∨ x = -1152921504606846976 ∨ y ≤ 0 by omega), zi]
    · rw [if_neg (show ¬ max y 0 ≤ 0 by omega)]
      by_cases h3 : x = -1152921504606846976
      · rw [if_pos h3, if_pos (show x = 1152921504606846976 ∨ x = -1152921504606846976 ∨ y ≤ 0 by omega), zi]
      · have hb' := hb h3
        unfold glo at hy
        rw [if_neg h3, if_neg (show ¬ (x = 1152921504606846976 ∨ x = -1152921504606846976 ∨ y ≤ 0) by omega), if_neg (show ¬ y = 1152921504606846976 by omega), show max y 0 = y by omega]
        exact ms_dn h hb'.1 hb'.2 (by omega) (by omega)
theorem ms_qhi (h : mwd M e m) {x y z : Int} (hx : ghi x) (hx2 : ge x) (hy : glo y) (hy2 : ge y) (hz : ge z) (h0 : 0 < z) : (if zL (ph x) ≤ (0 : Int64) then F_m_quotient M (zL (ph x)) (zL (ph z)) 1 else F_m_quotient M (zL (ph x)) (zL (ph y)) 1) = zL (ph (nB e m (-(lq e m (-x) (max y 0) z)))) := by
  have rx := ph_zr (ge_gd hx2)
  have sx := ph_sg (ge_gd hx2)
  have hp := pw16 h.2.1 h.2.2
  have z0 : zL (ph (nB e m (-0))) = 0 := by rw [nB_self h.2.1.2 h.2.2.2 (Or.inr ⟨by simp, by simp [rd]⟩)]; rfl
  have zi : zL (ph (nB e m (-(-1152921504606846976)))) = mw_far := by rw [Int.neg_neg, nB_self h.2.1.2 h.2.2.2 (Or.inl rfl)]; rfl
  have hb : ¬ x = 1152921504606846976 → -1125899906842624 < x * 2 ^ fb e m ∧ x * 2 ^ fb e m < 1125899906842624 := by
    intro q
    unfold ge at hx2; unfold ghi at hx
    exact mulp (by omega) hp
  by_cases h1 : x ≤ 0
  · rw [if_pos ((zl_le0 rx).mpr (sx.2.1.mpr h1)), ms_quo h hx2 hz]
    unfold lq
    rw [if_neg (show ¬ -x < 0 by omega), if_neg (show ¬ z ≤ 0 by omega)]
    have hx' : ¬ (x = 1152921504606846976 ∨ x = -1152921504606846976 ∨ z ≤ 0) := by unfold ghi at hx; omega
    by_cases h2 : x = 0
    · rw [if_pos h2]
      split
      · exact z0.symm
      · rw [h2, Int.neg_zero, Int.zero_mul, Int.zero_ediv, z0]
    · rw [if_neg h2, if_neg hx']
      by_cases h3 : z = 1152921504606846976
      · rw [if_pos h3, if_pos h3, z0]
      · rw [if_neg h3, if_neg h3, Int.neg_mul]
        have hb' := hb (by omega)
        unfold ge at hz
        exact ms_up h hb'.1 hb'.2 h0 (by omega)
  · rw [if_neg (fun q => h1 (sx.2.1.mp ((zl_le0 rx).mp q))), ms_quo h hx2 hy2, if_neg (show ¬ x = 0 by omega), if_pos (show 0 ≤ x by omega)]
    unfold lq
    rw [if_pos (show -x < 0 by omega)]
    by_cases h2 : y ≤ 0
    · rw [if_pos (show max y 0 ≤ 0 by omega), if_pos (show x = 1152921504606846976 ∨ x = -1152921504606846976 ∨ y ≤ 0 by omega), zi]
    · rw [if_neg (show ¬ max y 0 ≤ 0 by omega)]
      by_cases h3 : x = 1152921504606846976
      · rw [if_pos (show -x = -1152921504606846976 by omega), if_pos (show x = 1152921504606846976 ∨ x = -1152921504606846976 ∨ y ≤ 0 by omega), zi]
      · have hb' := hb h3
        unfold glo at hy
        rw [if_neg (show ¬ -x = -1152921504606846976 by omega), if_neg (show ¬ (x = 1152921504606846976 ∨ x = -1152921504606846976 ∨ y ≤ 0) by omega), if_neg (show ¬ y = 1152921504606846976 by omega), show max y 0 = y by omega, Int.neg_mul]
        exact ms_up h hb'.1 hb'.2 (by omega) (by omega)
theorem ediv_left {X a b : Int} (hX : 0 ≤ X) (ha : 0 < a) (hab : a ≤ b) : X / b ≤ X / a := by
  obtain ⟨x, rfl⟩ := Int.eq_ofNat_of_zero_le hX
  obtain ⟨p, rfl⟩ := Int.eq_ofNat_of_zero_le (Int.le_of_lt ha)
  obtain ⟨q, rfl⟩ := Int.eq_ofNat_of_zero_le (show 0 ≤ b by omega)
  rw [← Int.natCast_ediv, ← Int.natCast_ediv]
  have := Nat.div_le_div_left (a := x) (show p ≤ q by omega) (by omega)
  omega
/-- the quotients stand in order -/
theorem lq_le (he : 2 ≤ e ∧ e ≤ 4) (hm : 1 ≤ m ∧ m ≤ 10) {x y a b : Int} (hx : glo x) (hx2 : ge x) (hy : ghi y) (hy2 : ge y) (hxy : x ≤ y) (ha : 0 ≤ a) (hb : 0 < b) (hab : a ≤ b) : lq e m x a b ≤ -(lq e m (-y) a b) := by
  have hp := pw16 he hm
  have g1 := lq_gd he hm (y := a) (z := b) hx hx2
  have g2 := lq_gd he hm (y := a) (z := b) (ghi_neg hy) (ge_neg hy2)
  have neg : ∀ {w : Int}, w < 0 → ¬ a ≤ 0 → w * 2 ^ fb e m / a < 0 := fun {w} h h2 => Int.ediv_neg_of_neg_of_pos (Int.mul_neg_of_neg_of_pos h (by omega)) (by omega)
  have pos : ∀ {w : Int}, 0 ≤ w → 0 ≤ w * 2 ^ fb e m / b := fun {w} h => Int.ediv_nonneg (Int.mul_nonneg h (by omega)) (by omega)
  by_cases h1 : x < 0
  · by_cases h2 : 0 < y
    · have l1 : lq e m x a b ≤ 0 := by
        unfold lq
        rw [if_pos h1]
        split
        · omega
        · split
          · omega
          · have := neg h1 (by assumption); omega
      have l2 : lq e m (-y) a b ≤ 0 := by
        unfold lq
        rw [if_pos (show -y < 0 by omega)]
        split
        · omega
        · split
          · omega
          · have := neg (show -y < 0 by omega) (by assumption); omega
      omega
    · -- both at most 0
      unfold lq at g1 g2 ⊢
      rw [if_pos h1] at g1 ⊢
      rw [if_neg (show ¬ -y < 0 by omega), if_neg (show ¬ b ≤ 0 by omega)] at g2 ⊢
      by_cases h3 : a ≤ 0
      · rw [if_pos h3]
        unfold glo at g2
        omega
      · rw [if_neg h3] at g1 ⊢
        by_cases h4 : x = -1152921504606846976
        · rw [if_pos h4]
          unfold glo at g2
          omega
        · rw [if_neg h4]
          have n1 := neg h1 h3
          by_cases h5 : b = 1152921504606846976
          · rw [if_pos h5]; omega
          · rw [if_neg h5]
            have s1 : x * 2 ^ fb e m ≤ y * 2 ^ fb e m := Int.mul_le_mul_of_nonneg_right hxy (by omega)
            have s2 : x * 2 ^ fb e m / a ≤ y * 2 ^ fb e m / a := Int.ediv_le_ediv (by omega) s1
            have s3 : (-y) * 2 ^ fb e m / b ≤ (-y) * 2 ^ fb e m / a := ediv_left (Int.mul_nonneg (by omega) (by omega)) (by omega) hab
            have s4 : y * 2 ^ fb e m / a ≤ -((-y) * 2 ^ fb e m / a) := by
              rw [Int.neg_mul]
              generalize y * 2 ^ fb e m = Y
              have t1 := Int.mul_ediv_self_le (x := Y) (k := a) (by omega)
              have t2 := Int.mul_ediv_self_le (x := -Y) (k := a) (by omega)
              have t3 : a * (Y / a + (-Y) / a) ≤ 0 := by rw [Int.mul_add]; omega
              have t4 : Y / a + (-Y) / a ≤ 0 := Int.nonpos_of_mul_nonpos_left (by rw [Int.mul_comm]; exact t3) (show 0 < a by omega)
              omega
            omega
  · -- x at least 0
    by_cases h2 : y = 0
    · have h3 : x = 0 := by omega
      subst h2; subst h3
      unfold lq
      rw [Int.neg_zero, if_neg (by omega), if_neg (show ¬ b ≤ 0 by omega)]
      split
      · omega
      · rw [Int.zero_mul, Int.zero_ediv]; omega
    · unfold lq at g1 g2 ⊢
      rw [if_neg h1, if_neg (show ¬ b ≤ 0 by omega)] at g1 ⊢
      rw [if_pos (show -y < 0 by omega)] at g2 ⊢
      by_cases h3 : a ≤ 0
      · rw [if_pos h3]
        unfold glo at g1
        omega
      · rw [if_neg h3] at g2 ⊢
        by_cases h4 : -y = -1152921504606846976
        · rw [if_pos h4]
          unfold glo at g1
          omega
        · rw [if_neg h4]
          have n1 := neg (show -y < 0 by omega) h3
          by_cases h5 : b = 1152921504606846976
          · rw [if_pos h5]; omega
          · rw [if_neg h5]
            have s1 : x * 2 ^ fb e m ≤ y * 2 ^ fb e m := Int.mul_le_mul_of_nonneg_right hxy (by omega)
            have s2 : x * 2 ^ fb e m / a ≤ y * 2 ^ fb e m / a := Int.ediv_le_ediv (by omega) s1
            have s3 : x * 2 ^ fb e m / b ≤ x * 2 ^ fb e m / a := ediv_left (Int.mul_nonneg (by omega) (by omega)) (by omega) hab
            have s4 : y * 2 ^ fb e m / a ≤ -((-y) * 2 ^ fb e m / a) := by
              rw [Int.neg_mul]
              generalize y * 2 ^ fb e m = Y
              have t1 := Int.mul_ediv_self_le (x := Y) (k := a) (by omega)
              have t2 := Int.mul_ediv_self_le (x := -Y) (k := a) (by omega)
              have t3 : a * (Y / a + (-Y) / a) ≤ 0 := by rw [Int.mul_add]; omega
              have t4 : Y / a + (-Y) / a ≤ 0 := Int.nonpos_of_mul_nonpos_left (by rw [Int.mul_comm]; exact t3) (show 0 < a by omega)
              omega
            omega
end LQ
