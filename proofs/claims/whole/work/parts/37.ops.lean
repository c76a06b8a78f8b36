-- sums, products, quotients and roots of ends
theorem zi_end {a : Int} (h : zR a) : F_isEndless (zL a) = 0 ↔ ¬ (a = 1152921504606846976 ∨ a = -1152921504606846976) := by
  have e1 : zL a = cw_inf ↔ a = 1152921504606846976 := by rw [zl_inf]; exact zl_eq h (by unfold zR; omega)
  have e2 : zL a = -cw_inf ↔ a = -1152921504606846976 := by rw [zl_inf, zl_neg]; exact zl_eq h (by unfold zR; omega)
  unfold F_isEndless
  by_cases h1 : a = 1152921504606846976
  · rw [if_pos (e1.mpr h1)]
    constructor
    · intro q; exact absurd q (by decide)
    · intro q; exact absurd (Or.inl h1) q
  · rw [if_neg (fun q => h1 (e1.mp q))]
    by_cases h2 : a = -1152921504606846976
    · rw [if_pos (e2.mpr h2)]
      constructor
      · intro q; exact absurd q (by decide)
      · intro q; exact absurd (Or.inr h2) q
    · rw [if_neg (fun q => h2 (e2.mp q))]
      exact ⟨fun _ q => q.elim h1 h2, fun _ => rfl⟩
theorem mi_end {a : Int} (h : zR a) : F_m_isEnd (zL a) = 0 ↔ ¬ (-1125899906842624 < a ∧ a < 1125899906842624) := by
  have e1 : zL a ≤ -mw_far ↔ a ≤ -1125899906842624 := by rw [zl_far, zl_neg]; exact zl_le h (by unfold zR; omega)
  have e2 : mw_far ≤ zL a ↔ 1125899906842624 ≤ a := by rw [zl_far]; exact zl_le (by unfold zR; omega) h
  unfold F_m_isEnd
  by_cases h1 : a ≤ -1125899906842624
  · rw [if_pos (e1.mpr h1)]
    exact ⟨fun _ => by omega, fun _ => rfl⟩
  · rw [if_neg (fun q => h1 (e1.mp q))]
    by_cases h2 : 1125899906842624 ≤ a
    · rw [if_pos (e2.mpr h2)]
      exact ⟨fun _ => by omega, fun _ => rfl⟩
    · rw [if_neg (fun q => h2 (e2.mp q))]
      exact ⟨fun q => absurd q (by decide), fun q => absurd (by omega) q⟩
/-- endless, or small -/
def gd (a : Int) : Prop := a = 1152921504606846976 ∨ a = -1152921504606846976 ∨ (-1125899906842624 < a ∧ a < 1125899906842624)
theorem glo_gd {a : Int} (h : glo a) : gd a := by unfold glo at h; unfold gd; omega
theorem ghi_gd {a : Int} (h : ghi a) : gd a := by unfold ghi at h; unfold gd; omega
theorem gd_neg {a : Int} (h : gd a) : gd (-a) := by unfold gd at h ⊢; omega
theorem gd_zr {a : Int} (h : gd a) : zR a := by unfold gd at h; unfold zR; omega
theorem ph_zr {a : Int} (h : gd a) : zR (ph a) := by 
  unfold gd at h; unfold zR ph
  split
  · omega
  · split <;> omega
theorem ph_end {a : Int} (h : gd a) : (-1125899906842624 < ph a ∧ ph a < 1125899906842624) ↔ ¬ (a = 1152921504606846976 ∨ a = -1152921504606846976) := by
  unfold gd at h; unfold ph
  split
  · omega
  · split <;> omega
theorem ph_le {a b : Int} (ha : gd a) (hb : gd b) : ph a ≤ ph b ↔ a ≤ b := by
  unfold gd at ha hb
  unfold ph
  split <;> split <;> (try split) <;> (try split) <;> omega
theorem ph_lt {a b : Int} (ha : gd a) (hb : gd b) : ph a < ph b ↔ a < b := by
  have := ph_le hb ha
  omega
theorem ph_inj {a b : Int} (ha : gd a) (hb : gd b) : ph a = ph b ↔ a = b := by
  have := ph_le hb ha
  have := ph_le ha hb
  omega
theorem ph_0 : ph 0 = 0 := by decide
theorem ph_sg {a : Int} (h : gd a) : (0 ≤ ph a ↔ 0 ≤ a) ∧ (ph a ≤ 0 ↔ a ≤ 0) ∧ (ph a = 0 ↔ a = 0) := by
  have h0 : gd 0 := by unfold gd; omega
  have a1 := ph_le h0 h
  have a2 := ph_le h h0
  have a3 := ph_inj h h0
  rw [ph_0] at a1 a2 a3
  exact ⟨a1, a2, a3⟩
theorem zmin {a b : Int} (ha : zR a) (hb : zR b) : z_min (zL a) (zL b) = zL (min a b) := by
  unfold z_min
  by_cases h : b < a
  · rw [if_pos ((zl_lt hb ha).mpr h)]; congr 1; omega
  · rw [if_neg (fun q => h ((zl_lt hb ha).mp q))]; congr 1; omega
theorem zmax {a b : Int} (ha : zR a) (hb : zR b) : z_max (zL a) (zL b) = zL (max a b) := by
  unfold z_max
  by_cases h : b < a
  · rw [if_pos ((zl_lt hb ha).mpr h)]; congr 1; omega
  · rw [if_neg (fun q => h ((zl_lt hb ha).mp q))]; congr 1; omega
theorem mless {a b : Int} (ha : gd a) (hb : gd b) : F_m_less (zL (ph a)) (zL (ph b)) = zL (ph (min a b)) := by
  unfold F_m_less
  by_cases h : b ≤ a
  · rw [if_pos ((zl_le (ph_zr hb) (ph_zr ha)).mpr ((ph_le hb ha).mpr h))]; congr 2; omega
  · rw [if_neg (fun q => h ((ph_le hb ha).mp ((zl_le (ph_zr hb) (ph_zr ha)).mp q)))]; congr 2; omega
theorem mmore {a b : Int} (ha : gd a) (hb : gd b) : F_m_more (zL (ph a)) (zL (ph b)) = zL (ph (max a b)) := by
  unfold F_m_more
  by_cases h : a ≤ b
  · rw [if_pos ((zl_le (ph_zr ha) (ph_zr hb)).mpr ((ph_le ha hb).mpr h))]; congr 2; omega
  · rw [if_neg (fun q => h ((ph_le ha hb).mp ((zl_le (ph_zr ha) (ph_zr hb)).mp q)))]; congr 2; omega
theorem gd_min {a b : Int} (ha : gd a) (hb : gd b) : gd (min a b) := by unfold gd at *; omega
theorem gd_max {a b : Int} (ha : gd a) (hb : gd b) : gd (max a b) := by unfold gd at *; omega
-- sums
def pl (a b : Int) : Int := if a = 1152921504606846976 ∨ a = -1152921504606846976 then a else if b = 1152921504606846976 ∨ b = -1152921504606846976 then b else a + b
theorem cs_plus {a b : Int} (ha : zR a) (hb : zR b) : F_plus (zL a) (zL b) = zL (pl a b) := by
  unfold F_plus pl
  by_cases h1 : a = 1152921504606846976 ∨ a = -1152921504606846976
  · rw [if_pos h1, if_neg (fun q => (zi_end ha).mp q h1)]
  · rw [if_neg h1, if_pos ((zi_end ha).mpr h1)]
    by_cases h2 : b = 1152921504606846976 ∨ b = -1152921504606846976
    · rw [if_pos h2, if_neg (fun q => (zi_end hb).mp q h2)]
    · rw [if_neg h2, if_pos ((zi_end hb).mpr h2), zl_add]
theorem ms_plus {a b : Int} (ha : gd a) (hb : gd b) (z : Int64) : F_m_plus (zL (ph a)) (zL (ph b)) z = if a = 1152921504606846976 ∨ a = -1152921504606846976 ∨ b = 1152921504606846976 ∨ b = -1152921504606846976 then z else zL (a + b) := by
  have e1 := mi_end (ph_zr ha)
  have e2 := mi_end (ph_zr hb)
  rw [ph_end ha] at e1
  rw [ph_end hb] at e2
  unfold F_m_plus
  by_cases h1 : a = 1152921504606846976 ∨ a = -1152921504606846976
  · rw [if_pos (e1.mpr (fun q => q h1)), if_pos (by omega)]
  · rw [if_neg (fun q => (e1.mp q) h1)]
    by_cases h2 : b = 1152921504606846976 ∨ b = -1152921504606846976
    · rw [if_pos (e2.mpr (fun q => q h2)), if_pos (by omega)]
    · rw [if_neg (fun q => (e2.mp q) h2), if_neg (by omega), zl_add]
      congr 1
      unfold gd at ha hb
      rw [ph_id (by omega) (by omega), ph_id (by omega) (by omega)]
theorem ms_pluslo {a b : Int} (ha : glo a) (hb : glo b) (hs : a = -1152921504606846976 ∨ b = -1152921504606846976 ∨ (-1125899906842624 < a + b ∧ a + b < 1125899906842624)) : F_m_plus (zL (ph a)) (zL (ph b)) (-mw_far) = zL (ph (pl a b)) := by
  rw [ms_plus (glo_gd ha) (glo_gd hb)]
  unfold glo at ha hb
  unfold pl
  split
  · have : (if a = 1152921504606846976 ∨ a = -1152921504606846976 then a else if b = 1152921504606846976 ∨ b = -1152921504606846976 then b else a + b) = -1152921504606846976 := by
      split
      · omega
      · rw [if_pos (by omega)]; omega
    rw [this]
    rfl
  · rw [if_neg (by omega), if_neg (by omega), ph_id (by omega) (by omega)]
theorem ms_plushi {a b : Int} (ha : ghi a) (hb : ghi b) (hs : a = 1152921504606846976 ∨ b = 1152921504606846976 ∨ (-1125899906842624 < a + b ∧ a + b < 1125899906842624)) : F_m_plus (zL (ph a)) (zL (ph b)) mw_far = zL (ph (pl a b)) := by
  rw [ms_plus (ghi_gd ha) (ghi_gd hb)]
  unfold ghi at ha hb
  unfold pl
  split
  · have : (if a = 1152921504606846976 ∨ a = -1152921504606846976 then a else if b = 1152921504606846976 ∨ b = -1152921504606846976 then b else a + b) = 1152921504606846976 := by
      split
      · omega
      · rw [if_pos (by omega)]; omega
    rw [this]
    rfl
  · rw [if_neg (by omega), if_neg (by omega), ph_id (by omega) (by omega)]
-- floor and ceiling
def dv (x d : Int) : Int := if x = 1152921504606846976 ∨ x = -1152921504606846976 then x else x / d
theorem dv_1 (x : Int) : dv x 1 = x := by
  unfold dv
  rw [Int.ediv_one]
  split <;> rfl
theorem dv_gd {x d : Int} (h : gd x) (hd : 0 < d) : gd (dv x d) := by
  unfold dv
  unfold gd at *
  split
  · omega
  · rename_i h0
    right; right
    have h1 : -1125899906842624 < x ∧ x < 1125899906842624 := by omega
    by_cases h2 : 0 ≤ x
    · have a := Int.ediv_nonneg h2 (Int.le_of_lt hd)
      have b := Int.ediv_le_self d h2
      omega
    · have a := Int.ediv_neg_of_neg_of_pos (Int.not_le.mp h2) hd
      have b : x ≤ x / d := by
        refine Int.le_ediv_of_mul_le hd ?_
        have := Int.mul_le_mul_of_nonpos_left (a := x) (b := d) (c := 1) (by omega) (by omega)
        omega
      omega
theorem dv_mono {x y d : Int} (hx : gd x) (hy : gd y) (hd : 0 < d) (h : x ≤ y) : dv x d ≤ dv y d := by
  have a := dv_gd hx hd
  have b := dv_gd hy hd
  have c : x / d ≤ y / d := Int.ediv_le_ediv hd h
  have ex : ∀ x : Int, (dv x d = x ∧ (x = 1152921504606846976 ∨ x = -1152921504606846976)) ∨ (dv x d = x / d ∧ ¬ (x = 1152921504606846976 ∨ x = -1152921504606846976)) := by
    intro x
    unfold dv
    split
    · exact Or.inl ⟨rfl, by assumption⟩
    · exact Or.inr ⟨rfl, by assumption⟩
  have e1 := ex x
  have e2 := ex y
  unfold gd at *
  generalize dv x d = p at *
  generalize dv y d = q at *
  generalize x / d = u at *
  generalize y / d = v at *
  omega
theorem dv_min {x y d : Int} (hx : gd x) (hy : gd y) (hd : 0 < d) : min (dv x d) (dv y d) = dv (min x y) d := by
  by_cases h : x ≤ y
  · have := dv_mono hx hy hd h
    rw [show min x y = x by omega]
    omega
  · have := dv_mono hy hx hd (by omega)
    rw [show min x y = y by omega]
    omega
theorem dv_max {x y d : Int} (hx : gd x) (hy : gd y) (hd : 0 < d) : max (dv x d) (dv y d) = dv (max x y) d := by
  by_cases h : x ≤ y
  · have := dv_mono hx hy hd h
    rw [show max x y = y by omega]
    omega
  · have := dv_mono hy hx hd (by omega)
    rw [show max x y = x by omega]
    omega
section SPN
variable {c : cw_C} {M : mw_C} {e m : Nat}
theorem sp_lo (h : mwd M e m) {x d : Int} (hx : glo x) (hd : 0 < d) (hd2 : d < 1125899906842624) : (if F_m_isEnd (zL (ph x)) = 0 then -mw_far else F_m_rounded M (zL (ph x)) (zL d) 0) = zL (ph (nA e m (dv x d))) := by
  have e1 := mi_end (ph_zr (glo_gd hx))
  rw [ph_end (glo_gd hx)] at e1
  unfold glo at hx
  by_cases h1 : x = -1152921504606846976
  · rw [if_pos (e1.mpr (fun q => q (Or.inr h1)))]
    unfold dv
    rw [if_pos (Or.inr h1), nA_self h.2.1.2 h.2.2.2 (Or.inl h1), h1]
    rfl
  · rw [if_neg (fun q => e1.mp q (by omega))]
    unfold dv
    rw [if_neg (by omega), ph_id (a := x) (by omega) (by omega)]
    exact ms_dn h (by omega) (by omega) hd hd2
theorem sp_hi (h : mwd M e m) {x d : Int} (hx : ghi x) (hd : 0 < d) (hd2 : d < 1125899906842624) : (if F_m_isEnd (zL (ph x)) = 0 then mw_far else F_m_rounded M (zL (ph x)) (zL d) 1) = zL (ph (nB e m (-(dv (-x) d)))) := by
  have e1 := mi_end (ph_zr (ghi_gd hx))
  rw [ph_end (ghi_gd hx)] at e1
  unfold ghi at hx
  by_cases h1 : x = 1152921504606846976
  · rw [if_pos (e1.mpr (fun q => q (Or.inl h1)))]
    unfold dv
    rw [if_pos (by omega), nB_self h.2.1.2 h.2.2.2 (by left; omega), h1]
    rfl
  · rw [if_neg (fun q => e1.mp q (by omega))]
    unfold dv
    rw [if_neg (by omega), ph_id (a := x) (by omega) (by omega)]
    exact ms_up h (by omega) (by omega) hd hd2
-- products
def tm (a b : Int) : Int := if a = 0 then 0 else if b = 0 then 0 else if a = 1152921504606846976 ∨ a = -1152921504606846976 ∨ b = 1152921504606846976 ∨ b = -1152921504606846976 then (if (0 ≤ a ↔ 0 ≤ b) then 1152921504606846976 else -1152921504606846976) else a * b
/-- an end: endless or below 2^24 -/
def ge (a : Int) : Prop := a = 1152921504606846976 ∨ a = -1152921504606846976 ∨ (-16777216 < a ∧ a < 16777216)
theorem ge_gd {a : Int} (h : ge a) : gd a := by unfold ge at h; unfold gd; omega
theorem ge_neg {a : Int} (h : ge a) : ge (-a) := by unfold ge at *; omega
theorem mul_b {a b : Int} (ha : -16777216 < a ∧ a < 16777216) (hb : -16777216 < b ∧ b < 16777216) : -1125899906842624 < a * b ∧ a * b < 1125899906842624 := by
  have h1 : (a * b).natAbs ≤ 16777216 * 16777216 := by
    rw [Int.natAbs_mul]
    exact Nat.mul_le_mul (by omega) (by omega)
  omega
theorem tm_gd {a b : Int} (ha : ge a) (hb : ge b) : gd (tm a b) := by
  unfold tm
  split
  · unfold gd; omega
  · split
    · unfold gd; omega
    · split
      · split
        · unfold gd; omega
        · unfold gd; omega
      · unfold ge at ha hb
        have := mul_b (a := a) (b := b) (by omega) (by omega)
        unfold gd; omega
theorem tm_neg {a b : Int} : tm (-a) b = -(tm a b) := by
  unfold tm
  by_cases h1 : a = 0
  · rw [if_pos h1, if_pos (by omega)]; rfl
  · rw [if_neg h1, if_neg (show ¬ -a = 0 by omega)]
    by_cases h2 : b = 0
    · rw [if_pos h2, if_pos h2]; rfl
    · rw [if_neg h2, if_neg h2]
      by_cases h3 : a = 1152921504606846976 ∨ a = -1152921504606846976 ∨ b = 1152921504606846976 ∨ b = -1152921504606846976
      · rw [if_pos h3, if_pos (by omega)]
        by_cases h4 : (0 ≤ a ↔ 0 ≤ b)
        · rw [if_pos h4, if_neg (by omega)]
        · rw [if_neg h4, if_pos (by omega)]; rfl
      · rw [if_neg h3, if_neg (by omega), Int.neg_mul]
theorem sg_eq {x y : Int} : ((if 0 ≤ x then (0 : Int32) else 1) = (if 0 ≤ y then (0 : Int32) else 1)) ↔ (0 ≤ x ↔ 0 ≤ y) := by
  by_cases h1 : 0 ≤ x
  · rw [if_pos h1]
    by_cases h2 : 0 ≤ y
    · rw [if_pos h2]; exact ⟨fun _ => by omega, fun _ => rfl⟩
    · rw [if_neg h2]; exact ⟨fun q => absurd q (by decide), fun q => absurd q (by omega)⟩
  · rw [if_neg h1]
    by_cases h2 : 0 ≤ y
    · rw [if_pos h2]; exact ⟨fun q => absurd q (by decide), fun q => absurd q (by omega)⟩
    · rw [if_neg h2]; exact ⟨fun _ => by omega, fun _ => rfl⟩
theorem zsg {a : Int} (h : zR a) : (if (0 : Int64) ≤ zL a then (0 : Int32) else 1) = (if 0 ≤ a then (0 : Int32) else 1) := by
  by_cases h1 : 0 ≤ a
  · rw [if_pos h1, if_pos ((zl_0le h).mpr h1)]
  · rw [if_neg h1, if_neg (fun q => h1 ((zl_0le h).mp q))]
theorem cs_prod (h : cwd c e m) {a b : Int} (ha : ge a) (hb : ge b) : F_productNotAbove c (zL a) (zL b) = zL (dv (tm a b) (2 ^ fb e m)) := by
  have ra := gd_zr (ge_gd ha)
  have rb := gd_zr (ge_gd hb)
  have hf := fb_lt h.2.1 h.2.2
  unfold F_productNotAbove tm
  rw [zsg ra, zsg rb, cs_unit h]
  by_cases h1 : a = 0
  · rw [if_pos ((zl_eq0 ra).mpr h1), if_pos h1]
    unfold dv
    rw [if_neg (by omega), Int.zero_ediv]
    rfl
  · rw [if_neg (fun q => h1 ((zl_eq0 ra).mp q)), if_neg h1]
    by_cases h2 : b = 0
    · rw [if_pos ((zl_eq0 rb).mpr h2), if_pos h2]
      unfold dv
      rw [if_neg (by omega), Int.zero_ediv]
      rfl
    · rw [if_neg (fun q => h2 ((zl_eq0 rb).mp q)), if_neg h2]
      have key : (if (if 0 ≤ a then (0 : Int32) else 1) = (if 0 ≤ b then (0 : Int32) else 1) then cw_inf else -cw_inf) = zL (dv (if (0 ≤ a ↔ 0 ≤ b) then 1152921504606846976 else -1152921504606846976) (2 ^ fb e m)) := by
        by_cases h4 : (0 ≤ a ↔ 0 ≤ b)
        · rw [if_pos (sg_eq.mpr h4), if_pos h4]
          unfold dv
          rw [if_pos (by omega)]
          rfl
        · rw [if_neg (fun q => h4 (sg_eq.mp q)), if_neg h4]
          unfold dv
          rw [if_pos (by omega)]
          rfl
      by_cases h3 : a = 1152921504606846976 ∨ a = -1152921504606846976
      · rw [if_neg (fun q => (zi_end ra).mp q h3), if_pos (show a = 1152921504606846976 ∨ a = -1152921504606846976 ∨ b = 1152921504606846976 ∨ b = -1152921504606846976 by omega)]
        exact key
      · rw [if_pos ((zi_end ra).mpr h3)]
        by_cases h4 : b = 1152921504606846976 ∨ b = -1152921504606846976
        · rw [if_neg (fun q => (zi_end rb).mp q h4), if_pos (show a = 1152921504606846976 ∨ a = -1152921504606846976 ∨ b = 1152921504606846976 ∨ b = -1152921504606846976 by omega)]
          exact key
        · unfold ge at ha hb
          have hb2 := mul_b (a := a) (b := b) (by omega) (by omega)
          rw [if_pos ((zi_end rb).mpr h4), if_neg (show ¬ (a = 1152921504606846976 ∨ a = -1152921504606846976 ∨ b = 1152921504606846976 ∨ b = -1152921504606846976) by omega), zl_mul, zl_shr (by unfold zR; omega) (by omega)]
          unfold dv
          rw [if_neg (by omega)]
theorem cs_prodB (h : cwd c e m) {a b : Int} (ha : ge a) (hb : ge b) : F_productNotBelow c (zL a) (zL b) = zL (-(dv (-(tm a b)) (2 ^ fb e m))) := by
  unfold F_productNotBelow
  rw [zl_neg, cs_prod h (ge_neg ha) hb, zl_neg, tm_neg]
theorem ms_times {a b : Int} (ha : ge a) (hb : ge b) : F_m_times (zL (ph a)) (zL (ph b)) = zL (ph (tm a b)) := by
  have ra := ph_zr (ge_gd ha)
  have rb := ph_zr (ge_gd hb)
  have sa := ph_sg (ge_gd ha)
  have sb := ph_sg (ge_gd hb)
  have e1 := mi_end ra
  have e2 := mi_end rb
  rw [ph_end (ge_gd ha)] at e1
  rw [ph_end (ge_gd hb)] at e2
  unfold F_m_times tm
  rw [zsg ra, zsg rb]
  by_cases h1 : a = 0
  · rw [if_pos ((zl_eq0 ra).mpr (sa.2.2.mpr h1)), if_pos h1, ph_0]
    rfl
  · rw [if_neg (fun q => h1 (sa.2.2.mp ((zl_eq0 ra).mp q))), if_neg h1]
    by_cases h2 : b = 0
    · rw [if_pos ((zl_eq0 rb).mpr (sb.2.2.mpr h2)), if_pos h2, ph_0]
      rfl
    · rw [if_neg (fun q => h2 (sb.2.2.mp ((zl_eq0 rb).mp q))), if_neg h2]
      have key : (if (if 0 ≤ ph a then (0 : Int32) else 1) = (if 0 ≤ ph b then (0 : Int32) else 1) then mw_far else -mw_far) = zL (ph (if (0 ≤ a ↔ 0 ≤ b) then 1152921504606846976 else -1152921504606846976)) := by
        by_cases h4 : (0 ≤ a ↔ 0 ≤ b)
        · rw [if_pos (sg_eq.mpr (by rw [sa.1, sb.1]; exact h4)), if_pos h4]
          rfl
        · rw [if_neg (fun q => h4 (by have := sg_eq.mp q; rw [sa.1, sb.1] at this; exact this)), if_neg h4]
          rfl
      by_cases h3 : a = 1152921504606846976 ∨ a = -1152921504606846976
      · rw [if_pos (e1.mpr (fun q => q h3)), if_pos (show a = 1152921504606846976 ∨ a = -1152921504606846976 ∨ b = 1152921504606846976 ∨ b = -1152921504606846976 by omega)]
        exact key
      · rw [if_neg (fun q => e1.mp q h3)]
        by_cases h4 : b = 1152921504606846976 ∨ b = -1152921504606846976
        · rw [if_pos (e2.mpr (fun q => q h4)), if_pos (show a = 1152921504606846976 ∨ a = -1152921504606846976 ∨ b = 1152921504606846976 ∨ b = -1152921504606846976 by omega)]
          exact key
        · unfold ge at ha hb
          have hb2 := mul_b (a := a) (b := b) (by omega) (by omega)
          rw [if_neg (fun q => e2.mp q h4), if_neg (show ¬ (a = 1152921504606846976 ∨ a = -1152921504606846976 ∨ b = 1152921504606846976 ∨ b = -1152921504606846976) by omega), zl_mul, ph_id (a := a) (by omega) (by omega), ph_id (a := b) (by omega) (by omega), ph_id (by omega) (by omega)]
-- floor division
theorem cs_fd {a d : Int} (ha : zR a) (hd : zR d) (h0 : 0 < d) : F_floorDiv (zL a) (zL d) = zL (a / d) := by
  have hx := zl_xor (x := zL a) (y := zL d) (by rw [zl_t hd]; omega)
  rw [zl_t ha] at hx
  unfold F_floorDiv
  by_cases h1 : 0 ≤ a
  · rw [if_pos (hx.mpr h1), zl_div ha hd h1 h0]
  · rw [if_neg (fun q => h1 (hx.mp q)), zl_tdiv ha hd (by omega) h0, zl_mul, zl_1, zl_sub]
    obtain ⟨n, hn⟩ := Int.eq_ofNat_of_zero_le (show 0 ≤ -a by omega)
    obtain ⟨k, rfl⟩ := Int.eq_ofNat_of_zero_le (Int.le_of_lt h0)
    have hnd := neg_div (n := n) (d := k) (by omega)
    have h3 := Nat.div_add_mod n k
    have h4 : n / k * k ≤ n := Nat.div_mul_le_self _ _
    have ha' : a = -(n : Int) := by omega
    rw [← ha'] at hnd
    rw [hn, ← Int.natCast_ediv, Int.neg_mul, ← Int.natCast_mul]
    have hq : n / k ≤ n := Nat.div_le_self _ _
    unfold zR at ha
    by_cases h2 : n % k = 0
    · rw [if_pos h2] at hnd
      rw [h2, Nat.mul_comm] at h3
      rw [if_pos (by rw [ha']; congr 2; omega)]
      congr 1
      omega
    · rw [if_neg h2] at hnd
      rw [Nat.mul_comm] at h3
      rw [if_neg]
      · congr 1
        omega
      · rw [zl_eq (by unfold zR; omega) (by unfold zR; omega)]
        omega
end SPN
