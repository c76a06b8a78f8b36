-- products, sizes, squares and roots
theorem dv_fc {x d : Int} (hd : 0 < d) : dv x d ≤ -(dv (-x) d) := by
  unfold dv
  by_cases h : x = 1152921504606846976 ∨ x = -1152921504606846976
  · rw [if_pos h, if_pos (by omega)]; omega
  · rw [if_neg h, if_neg (by omega)]
    have t1 := Int.mul_ediv_self_le (x := x) (k := d) (by omega)
    have t2 := Int.mul_ediv_self_le (x := -x) (k := d) (by omega)
    have t3 : d * (x / d + (-x) / d) ≤ 0 := by rw [Int.mul_add]; omega
    have t4 : x / d + (-x) / d ≤ 0 := Int.nonpos_of_mul_nonpos_left (by rw [Int.mul_comm]; exact t3) (show 0 < d by omega)
    omega
theorem dv_lo {x d : Int} (h : glo x) (hd : 0 < d) : glo (dv x d) := by
  have := dv_gd (glo_gd h) hd
  have h2 : dv x d ≠ 1152921504606846976 := by
    unfold dv
    unfold glo at h
    by_cases h0 : x = 1152921504606846976 ∨ x = -1152921504606846976
    · rw [if_pos h0]; omega
    · rw [if_neg h0]
      by_cases h3 : 0 ≤ x
      · have := Int.ediv_le_self d h3
        omega
      · have := Int.ediv_neg_of_neg_of_pos (Int.not_le.mp h3) hd
        omega
  unfold gd at this
  unfold glo
  omega
theorem dv_hi {x d : Int} (h : ghi x) (hd : 0 < d) : ghi (-(dv (-x) d)) := glo_neg (dv_lo (ghi_neg h) hd)
theorem cdv_max {x y d : Int} (hx : gd x) (hy : gd y) (hd : 0 < d) : max (-(dv (-x) d)) (-(dv (-y) d)) = -(dv (-(max x y)) d) := by
  have := dv_min (gd_neg hx) (gd_neg hy) hd
  rw [show min (-x) (-y) = -(max x y) by omega] at this
  omega
theorem tm_I {x y : Int} (hx : ge x) (hy : ge y) (h : tm x y = 1152921504606846976) : ¬ x = 0 ∧ ¬ y = 0 ∧ (0 ≤ x ↔ 0 ≤ y) ∧ (x = 1152921504606846976 ∨ x = -1152921504606846976 ∨ y = 1152921504606846976 ∨ y = -1152921504606846976) := by
  unfold tm at h
  split at h
  · omega
  · split at h
    · omega
    · split at h
      · split at h
        · exact ⟨by assumption, by assumption, by assumption, by assumption⟩
        · omega
      · unfold ge at hx hy
        have := mul_b (a := x) (b := y) (by omega) (by omega)
        omega
theorem tm_nI {x y : Int} (hx : ge x) (hy : ge y) (h : tm x y = -1152921504606846976) : ¬ x = 0 ∧ ¬ y = 0 ∧ ¬ (0 ≤ x ↔ 0 ≤ y) ∧ (x = 1152921504606846976 ∨ x = -1152921504606846976 ∨ y = 1152921504606846976 ∨ y = -1152921504606846976) := by
  unfold tm at h
  split at h
  · omega
  · split at h
    · omega
    · split at h
      · split at h
        · omega
        · exact ⟨by assumption, by assumption, by assumption, by assumption⟩
      · unfold ge at hx hy
        have := mul_b (a := x) (b := y) (by omega) (by omega)
        omega
section ONE
variable {c : cw_C} {M : mw_C} {e m i j : Nat}
theorem span_fr {X Y D : Int64} : mfr M (S_m_span M X Y D) ∧ (S_m_span M X Y D).2.2.1.1 = true := ⟨⟨rfl, rfl⟩, z_tt⟩
theorem span_hi (h : mwd M e m) {y d : Int} {X Y D : Int64} (hY : Y = zL (ph y)) (hD : D = zL d) (hy : ghi y) (hd : 0 < d) (hd2 : d < 1125899906842624) : (S_m_span M X Y D).2.2.1.2.2 = zL (ph (nB e m (-(dv (-y) d)))) := by
  subst hY; subst hD
  exact sp_hi (M := B_m_span_1 M X (zL (ph y)) (zL d)) h hy hd hd2
theorem pr_step {x y z v : Int64} {n : Nat} {A B T : Int} {k : Int32} (gA : gd A) (gB : gd B) (gT : gd T) (hk : ¬ (4 : Int32) ≤ k)
    (hT : F_m_times (if (2 : Int32) ≤ k then y else x) (if (k - k / (2 : Int32) * (2 : Int32)) = (0 : Int32) then z else v) = zL (ph T)) :
    LS_m_product x y z v (n + 1) M (zL (ph A)) (zL (ph B)) k = LS_m_product x y z v n M (zL (ph (min A T))) (zL (ph (max B T))) (k + 1) := by
  rw [LS_m_product, if_neg hk, hT]
  have e1 : (if zL (ph A) ≤ zL (ph T) then zL (ph A) else zL (ph T)) = zL (ph (min A T)) := by
    by_cases h : A ≤ T
    · rw [if_pos ((zl_le (ph_zr gA) (ph_zr gT)).mpr ((ph_le gA gT).mpr h)), show min A T = A by omega]
    · rw [if_neg (fun q => h ((ph_le gA gT).mp ((zl_le (ph_zr gA) (ph_zr gT)).mp q))), show min A T = T by omega]
  have e2 : (if zL (ph T) ≤ zL (ph B) then zL (ph B) else zL (ph T)) = zL (ph (max B T)) := by
    by_cases h : T ≤ B
    · rw [if_pos ((zl_le (ph_zr gT) (ph_zr gB)).mpr ((ph_le gT gB).mpr h)), show max B T = B by omega]
    · rw [if_neg (fun q => h ((ph_le gT gB).mp ((zl_le (ph_zr gT) (ph_zr gB)).mp q))), show max B T = T by omega]
  rw [e1, e2]
theorem gd_I : gd 1152921504606846976 := Or.inl rfl
theorem gd_nI : gd (-1152921504606846976) := Or.inr (Or.inl rfl)
theorem pr_ok (hm : mwd M e m) {a b p q : Int} (ga : ge a) (gb : ge b) (gp : ge p) (gq : ge q) :
    S_m_product M (zL (ph a)) (zL (ph b)) (zL (ph p)) (zL (ph q)) = S_m_span M (zL (ph (min (min (tm a p) (tm a q)) (min (tm b p) (tm b q))))) (zL (ph (max (max (tm a p) (tm a q)) (max (tm b p) (tm b q))))) (zL (2 ^ fb e m)) := by
  have t1 := tm_gd ga gp
  have t2 := tm_gd ga gq
  have t3 := tm_gd gb gp
  have t4 := tm_gd gb gq
  have m1 := ms_times ga gp
  have m2 := ms_times ga gq
  have m3 := ms_times gb gp
  have m4 := ms_times gb gq
  have hf := fb_lt hm.2.1 hm.2.2
  unfold S_m_product
  rw [show mw_far = zL (ph 1152921504606846976) from rfl, show -zL (ph 1152921504606846976) = zL (ph (-1152921504606846976)) by rw [ph_neg, zl_neg]]
  rw [pr_step gd_I gd_nI t1 (by decide) (by rw [if_neg (by decide), if_pos (by decide)]; exact m1)]
  rw [pr_step (gd_min gd_I t1) (gd_max gd_nI t1) t2 (by decide) (by rw [if_neg (by decide), if_neg (by decide)]; exact m2)]
  rw [pr_step (gd_min (gd_min gd_I t1) t2) (gd_max (gd_max gd_nI t1) t2) t3 (by decide) (by rw [if_pos (by decide), if_pos (by decide)]; exact m3)]
  rw [pr_step (gd_min (gd_min (gd_min gd_I t1) t2) t3) (gd_max (gd_max (gd_max gd_nI t1) t2) t3) t4 (by decide) (by rw [if_pos (by decide), if_neg (by decide)]; exact m4)]
  rw [LS_m_product, if_pos (by decide), ms_fine hm, zl_1, zl_shl _ (by omega), Int.one_mul]
  generalize tm a p = T1 at *
  generalize tm a q = T2 at *
  generalize tm b p = T3 at *
  generalize tm b q = T4 at *
  unfold gd at t1 t2 t3 t4
  congr 3
  · omega
  · omega
theorem two_2 (hw : cwd c e m) (hm : mwd M e m) (hr : rlp e m c M) (hi : i < 8) (hj : j < 8) : twok e m c M (S_reckonTwo c 2 i j) (S_m_two M 2 (nI i) (nI j)) := by
  rcases cr_both hr hi hj with ⟨h1, h2⟩ | ⟨h1, a, b, p, q, ⟨u1, u2, u3, u4, u5, u6⟩, ⟨v1, v2, v3, v4, v5, v6⟩⟩
  · exact two_e (by decide) hi hj h1 h2
  · have he := hm.2.1.2
    have hmm := hm.2.2.2
    have ga := elo_ge he hmm u3
    have gb := ehi_ge he hmm u4
    have gp := elo_ge he hmm v3
    have gq := ehi_ge he hmm v4
    have la := elo_g he hmm u3
    have hb := ehi_g he hmm u4
    have lp := elo_g he hmm v3
    have hq := ehi_g he hmm v4
    rw [two_cb (by decide) (by rw [u1]; exact (zl_le (gd_zr (ge_gd ga)) (gd_zr (ge_gd gb))).mpr u2) (by rw [v1]; exact (zl_le (gd_zr (ge_gd gp)) (gd_zr (ge_gd gq))).mpr v2), two_mb (by decide) hi hj h1]
    rw [if_neg (by decide), if_neg (by decide), if_pos rfl, if_neg (by decide), if_neg (by decide), if_pos rfl]
    unfold S_multiply B_m_two_11
    rw [u1, v1]
    dsimp only
    obtain ⟨w1, w2, w3, w4⟩ := lo2 (M := M) (x := 2) hi hj
    have hmB : mwd (B_m_two_1 M 2 (nI i) (nI j)) e m := hm
    rw [w1, w2, w3, w4, u5, u6, v5, v6, pr_ok hmB ga gb gp gq, cs_prod hw ga gp, cs_prod hw ga gq, cs_prod hw gb gp, cs_prod hw gb gq, cs_prodB hw ga gp, cs_prodB hw ga gq, cs_prodB hw gb gp, cs_prodB hw gb gq]
    have t1 := tm_gd ga gp
    have t2 := tm_gd ga gq
    have t3 := tm_gd gb gp
    have t4 := tm_gd gb gq
    have hD := pw16 hm.2.1 hm.2.2
    have hD0 : (0 : Int) < 2 ^ fb e m := by omega
    have d1 := dv_gd t1 hD0
    have d2 := dv_gd t2 hD0
    have d3 := dv_gd t3 hD0
    have d4 := dv_gd t4 hD0
    have e1 := gd_neg (dv_gd (gd_neg t1) hD0)
    have e2 := gd_neg (dv_gd (gd_neg t2) hD0)
    have e3 := gd_neg (dv_gd (gd_neg t3) hD0)
    have e4 := gd_neg (dv_gd (gd_neg t4) hD0)
    rw [zmin (gd_zr d1) (gd_zr d2), zmin (gd_zr d3) (gd_zr d4), zmin (gd_zr (gd_min d1 d2)) (gd_zr (gd_min d3 d4)), zmax (gd_zr e1) (gd_zr e2), zmax (gd_zr e3) (gd_zr e4), zmax (gd_zr (gd_max e1 e2)) (gd_zr (gd_max e3 e4))]
    rw [dv_min t1 t2 hD0, dv_min t3 t4 hD0, dv_min (gd_min t1 t2) (gd_min t3 t4) hD0, cdv_max t1 t2 hD0, cdv_max t3 t4 hD0, cdv_max (gd_max t1 t2) (gd_max t3 t4) hD0]
    have lo : glo (min (min (tm a p) (tm a q)) (min (tm b p) (tm b q))) := by
      have n : ¬ (tm a p = 1152921504606846976 ∧ tm a q = 1152921504606846976 ∧ tm b q = 1152921504606846976) := by
        rintro ⟨n1, n2, n3⟩
        have r1 := tm_I ga gp n1
        have r2 := tm_I ga gq n2
        have r3 := tm_I gb gq n3
        unfold glo ghi at *
        omega
      unfold gd at t1 t2 t3 t4
      unfold glo
      omega
    have hi9 : ghi (max (max (tm a p) (tm a q)) (max (tm b p) (tm b q))) := by
      have n : ¬ (tm a p = -1152921504606846976 ∧ tm a q = -1152921504606846976 ∧ tm b p = -1152921504606846976) := by
        rintro ⟨n1, n2, n3⟩
        have r1 := tm_nI ga gp n1
        have r2 := tm_nI ga gq n2
        have r3 := tm_nI gb gp n3
        unfold glo ghi at *
        omega
      unfold gd at t1 t2 t3 t4
      unfold ghi
      omega
    have hS := span_ok (M := B_m_two_1 M 2 (nI i) (nI j)) hmB rfl rfl rfl lo hi9 hD0 (by omega)
    refine ⟨be_f (by omega), ⟨hS.1.1, hS.1.2⟩, Or.inr ⟨hS.2.1, _, _, be_at _ _ _ _, ?_, dv_lo lo hD0, dv_hi hi9 hD0, hS.2.2.1, hS.2.2.2⟩⟩
    have f1 := dv_mono (glo_gd lo) (ghi_gd hi9) hD0 (by omega)
    have f2 := dv_fc (x := max (max (tm a p) (tm a q)) (max (tm b p) (tm b q))) hD0
    exact Int.le_trans f1 f2
-- one place
def szl (a b : Int) : Int := if 0 ≤ a then a else if b ≤ 0 then -b else 0
theorem fin0 (e m : Nat) : fin e m 0 := ⟨Nat.zero_le _, by simp [rd]⟩
theorem szl_fin {a b : Int} (ha : elo e m a) (hb : ehi e m b) : fin e m (szl a b) ∧ 0 ≤ szl a b := by
  unfold szl
  split
  · rename_i h
    rcases ha with ha | ha
    · omega
    · exact ⟨ha, h⟩
  · split
    · rename_i h
      rcases hb with hb | hb
      · omega
      · exact ⟨fin_neg hb, by omega⟩
    · exact ⟨fin0 e m, by omega⟩
theorem szl_le {a b : Int} (h : a ≤ b) : szl a b ≤ max (-a) b := by
  unfold szl
  split
  · omega
  · split <;> omega
theorem cs_size {a b : Int} (h : c.2.2 i = (zL a, zL b)) (hab : a ≤ b) (ha : gd a) (hb : gd b) : S_takeSize c i = S_become c 8 (zL (szl a b)) (zL (max (-a) b)) := by
  have ra := gd_zr ha
  have rb := gd_zr hb
  unfold S_takeSize szl
  rw [h]
  dsimp only
  by_cases h1 : a < 0
  · rw [if_pos ((zl_lt0 ra).mpr h1), if_neg (show ¬ 0 ≤ a by omega)]
    by_cases h2 : 0 < b
    · rw [if_pos ((zl_0lt rb).mpr h2), if_neg (show ¬ b ≤ 0 by omega), zl_neg, zmax (zr_neg ra) rb]
      rfl
    · rw [if_neg (fun q => h2 ((zl_0lt rb).mp q)), if_pos (show b ≤ 0 by omega), zl_neg, zl_neg, show max (-a) b = -a by omega]
  · rw [if_neg (fun q => h1 ((zl_lt0 ra).mp q)), if_pos (show 0 ≤ a by omega), show max (-a) b = b by omega]
theorem ms_size {a b : Int} (hab : a ≤ b) (ha : gd a) (hb : gd b) : (S_m_sizes M (zL (ph a)) (zL (ph b))).2.2.1.2.1 = zL (ph (szl a b)) ∧ (S_m_sizes M (zL (ph a)) (zL (ph b))).2.2.1.2.2 = zL (ph (max (-a) b)) := by
  have sa := ph_sg ha
  have sb := ph_sg hb
  constructor
  · show (if zL (ph a) ≤ (0 : Int64) then (if (0 : Int64) ≤ zL (ph b) then (0 : Int64) else -zL (ph b)) else zL (ph a)) = _
    unfold szl
    by_cases h1 : a ≤ 0
    · rw [if_pos ((zl_le0 (ph_zr ha)).mpr (sa.2.1.mpr h1))]
      by_cases h2 : 0 ≤ b
      · rw [if_pos ((zl_0le (ph_zr hb)).mpr (sb.1.mpr h2))]
        have : (if 0 ≤ a then a else if b ≤ 0 then -b else 0) = 0 := by
          split
          · omega
          · split <;> omega
        rw [this, ph_0]
        rfl
      · rw [if_neg (fun q => h2 (sb.1.mp ((zl_0le (ph_zr hb)).mp q))), if_neg (show ¬ 0 ≤ a by omega), if_pos (show b ≤ 0 by omega), ph_neg, zl_neg]
    · rw [if_neg (fun q => h1 (sa.2.1.mp ((zl_le0 (ph_zr ha)).mp q))), if_pos (show 0 ≤ a by omega)]
  · show F_m_more (-zL (ph a)) (zL (ph b)) = _
    rw [zl_neg, ← ph_neg, mmore (gd_neg ha) hb]
theorem one_c {x : Int32} (h : ¬ (c.2.2 i).1 ≤ (c.2.2 i).2) : S_reckonOne c x i = S_become c 8 1 0 := by
  unfold S_reckonOne
  rw [if_neg (fun q => h (ie_0.mp q))]
  rfl
theorem one_cb {x : Int32} (h : (c.2.2 i).1 ≤ (c.2.2 i).2) : S_reckonOne c x i = (if x = (8 : Int32) then S_become c 8 (-((c.2.2 i).2)) (-((c.2.2 i).1)) else (if x = (9 : Int32) then S_become (S_takeSize c i) 8 (F_productNotAbove (S_takeSize c i) (((S_takeSize c i).2.2 8).1) (((S_takeSize c i).2.2 8).1)) (F_productNotBelow (S_takeSize c i) (((S_takeSize c i).2.2 8).2) (((S_takeSize c i).2.2 8).2)) else (if x = (10 : Int32) then S_takeRoot c i else (if x = (11 : Int32) then S_takeSize c i else S_becomeEmpty c 8)))) := by
  unfold S_reckonOne
  rw [if_pos (ie_0.mpr h)]
def one_M (M : mw_C) (i : Nat) : mw_C := mp_is M (z_t (z_i (M.2.1.1 (nI i).toNatClampNeg)))
theorem one_is (hi : i < 8) : (one_M M i).2.2.1.1 = M.2.1.1 i := by
  show z_t (z_i (M.2.1.1 (nI i).toNatClampNeg)) = _
  rw [nI_clamp (by omega), z_ti]
theorem one_m {x : Int32} (hi : i < 8) (h : M.2.1.1 i = false) : S_m_alone M x (nI i) = one_M M i := by
  unfold S_m_alone
  exact if_pos (z_i0.mpr ((one_is hi).trans h))
theorem one_mb {x : Int32} (hi : i < 8) (h : M.2.1.1 i = true) : S_m_alone M x (nI i) = (if x = (8 : Int32) then B_m_alone_2 M x (nI i) else (if x = (9 : Int32) then B_m_alone_7 M x (nI i) else (if x = (10 : Int32) then B_m_alone_8 M x (nI i) else B_m_alone_3 M x (nI i)))) := by
  unfold S_m_alone
  rw [if_neg (fun q => by
    have h9 := (one_is (M := M) hi).symm.trans (z_i0.mp q)
    rw [h] at h9; cases h9)]
theorem one_e {x : Int32} (hi : i < 8) (h1 : M.2.1.1 i = false) (h2 : ¬ (c.2.2 i).1 ≤ (c.2.2 i).2) : twok e m c M (S_reckonOne c x i) (S_m_alone M x (nI i)) := by
  rw [one_c h2, one_m hi h1]
  refine ⟨be_f (by omega), ⟨rfl, rfl⟩, kps_e ?_ ?_⟩
  · rw [one_is hi]; exact h1
  · rw [be_at]; exact e10
theorem one_8 (hw : cwd c e m) (hm : mwd M e m) (hr : rlp e m c M) (hi : i < 8) : twok e m c M (S_reckonOne c 8 i) (S_m_alone M 8 (nI i)) := by
  rcases hr i hi with ⟨h1, h2⟩ | ⟨h1, a, b, h2, h3, h4, h5, h6, h7⟩
  · exact one_e hi h1 h2
  · have he := hm.2.1.2
    have hmm := hm.2.2.2
    have ga := ge_gd (elo_ge he hmm h4)
    have gb := ge_gd (ehi_ge he hmm h5)
    have ci : (nI i).toNatClampNeg = i := nI_clamp (by omega)
    rw [one_cb (by rw [h2]; exact (zl_le (gd_zr ga) (gd_zr gb)).mpr h3), one_mb hi h1, if_pos rfl, if_pos rfl, h2]
    dsimp only
    rw [zl_neg, zl_neg]
    have hf : (B_m_alone_2 M 8 (nI i)).2.2.1.2.1 = zL (ph (-b)) := by
      show -(M.2.1.2.2 (nI i).toNatClampNeg) = _
      rw [ci, h7, zl_neg, ph_neg]
    have ht : (B_m_alone_2 M 8 (nI i)).2.2.1.2.2 = zL (ph (-a)) := by
      show -(M.2.1.2.1 (nI i).toNatClampNeg) = _
      rw [ci, h6, zl_neg, ph_neg]
    exact ⟨be_f (by omega), ⟨rfl, rfl⟩, kps_s he hmm ((one_is hi).trans h1) (be_at _ _ _ _) (by omega) (ehi_neg h5) (elo_neg h4) hf ht⟩
theorem one_11 (hw : cwd c e m) (hm : mwd M e m) (hr : rlp e m c M) (hi : i < 8) : twok e m c M (S_reckonOne c 11 i) (S_m_alone M 11 (nI i)) := by
  rcases hr i hi with ⟨h1, h2⟩ | ⟨h1, a, b, h2, h3, h4, h5, h6, h7⟩
  · exact one_e hi h1 h2
  · have he := hm.2.1.2
    have hmm := hm.2.2.2
    have ga := ge_gd (elo_ge he hmm h4)
    have gb := ge_gd (ehi_ge he hmm h5)
    have ci : (nI i).toNatClampNeg = i := nI_clamp (by omega)
    rw [one_cb (by rw [h2]; exact (zl_le (gd_zr ga) (gd_zr gb)).mpr h3), one_mb hi h1, if_neg (by decide), if_neg (by decide), if_neg (by decide), if_pos rfl, if_neg (by decide), if_neg (by decide), if_neg (by decide), cs_size h2 h3 ga gb]
    have h3' : B_m_alone_3 M 11 (nI i) = S_m_sizes (one_M M i) (zL (ph a)) (zL (ph b)) := by
      show S_m_sizes (one_M M i) (M.2.1.2.1 (nI i).toNatClampNeg) (M.2.1.2.2 (nI i).toNatClampNeg) = _
      rw [ci, h6, h7]
    have hs := ms_size (M := one_M M i) h3 ga gb
    rw [h3']
    have hl := szl_fin h4 h5
    exact ⟨be_f (by omega), ⟨rfl, rfl⟩, kps_s he hmm ((one_is hi).trans h1) (be_at _ _ _ _) (szl_le h3) (Or.inr hl.1) (eh_max (elo_neg h4) h5) hs.1 hs.2⟩
theorem mt_to (M : mw_C) (v : Int64) : (mp_to M v).2.2.1.2.2 = v := rfl
theorem mf_is (M : mw_C) (v : Int64) : (mp_from M v).2.2.1.1 = M.2.2.1.1 := rfl
theorem mf_fr (M : mw_C) (v : Int64) : (mp_from M v).2.2.1.2.1 = v := rfl
theorem mf_to (M : mw_C) (v : Int64) : (mp_from M v).2.2.1.2.2 = M.2.2.1.2.2 := rfl
theorem mf_mf (M : mw_C) (v : Int64) : mfr M (mp_from M v) := ⟨rfl, rfl⟩
theorem ms_fr (M : mw_C) (x y : Int64) : mfr M (S_m_sizes M x y) := ⟨rfl, rfl⟩
theorem rt5 (M : mw_C) (x y : Int64) : (B_m_roots_5 M x y).2.2.1.2.2 = F_m_rounded (B_m_roots_3 M x y) (if (A_m_roots_4 M x y) * (A_m_roots_4 M x y) = y <<< ((F_m_fine (B_m_roots_3 M x y)).toInt64 &&& 63) then (2 : Int64) * (A_m_roots_4 M x y) else ((2 : Int64) * (A_m_roots_4 M x y)) + (1 : Int64)) (2 : Int64) (1 : Int32) := by
  unfold B_m_roots_5
  exact mt_to _ _
theorem tm_fin {x : Int} (h : -16777216 < x ∧ x < 16777216) : glo (tm x x) ∧ ghi (tm x x) ∧ tm x x = x * x := by
  have hb := mul_b h h
  have : tm x x = x * x := by
    unfold tm
    by_cases h0 : x = 0
    · rw [if_pos h0, h0]; rfl
    · rw [if_neg h0, if_neg h0, if_neg (by omega)]
  rw [this]
  exact ⟨Or.inr hb, Or.inr hb, rfl⟩
theorem tm_ord {l h : Int} (he : e ≤ 4) (hmm : m ≤ 10) (hlb : -16777216 < l ∧ l < 16777216) (h0 : 0 ≤ l) (hh : ehi e m h) (hle : l ≤ h) : ghi (tm h h) ∧ tm l l ≤ tm h h := by
  obtain ⟨tf1, tf2, tf3⟩ := tm_fin hlb
  rcases hh with hh | hh
  · have : tm h h = 1152921504606846976 := by subst hh; rfl
    rw [this]
    refine ⟨Or.inl rfl, ?_⟩
    unfold glo at tf1; omega
  · obtain ⟨q1, q2, q3⟩ := tm_fin (fin_b he hmm hh)
    refine ⟨q2, ?_⟩
    rw [tf3, q3]
    exact Int.mul_le_mul hle hle h0 (by omega)
theorem one_9 (hw : cwd c e m) (hm : mwd M e m) (hr : rlp e m c M) (hi : i < 8) : twok e m c M (S_reckonOne c 9 i) (S_m_alone M 9 (nI i)) := by
  rcases hr i hi with ⟨h1, h2⟩ | ⟨h1, a, b, h2, h3, h4, h5, h6, h7⟩
  · exact one_e hi h1 h2
  · have he := hm.2.1.2
    have hmm := hm.2.2.2
    have ga := ge_gd (elo_ge he hmm h4)
    have gb := ge_gd (ehi_ge he hmm h5)
    have ci : (nI i).toNatClampNeg = i := nI_clamp (by omega)
    have hl := szl_fin h4 h5
    have hlb := fin_b he hmm hl.1
    have hh := eh_max (elo_neg h4) h5
    have gl : ge (szl a b) := by unfold ge; omega
    have gh := ehi_ge he hmm hh
    have hle := szl_le h3
    rw [one_cb (by rw [h2]; exact (zl_le (gd_zr ga) (gd_zr gb)).mpr h3), one_mb hi h1, if_neg (by decide), if_pos rfl, if_neg (by decide), if_pos rfl, cs_size h2 h3 ga gb, be_at]
    dsimp only
    have hw' : cwd (S_become c 8 (zL (szl a b)) (zL (max (-a) b))) e m := be_w hw
    rw [cs_prod hw' gl gl, cs_prodB hw' gh gh]
    have hD := pw16 hm.2.1 hm.2.2
    have hD0 : (0 : Int) < 2 ^ fb e m := by omega
    have h3' : B_m_alone_3 M 9 (nI i) = S_m_sizes (one_M M i) (zL (ph a)) (zL (ph b)) := by
      show S_m_sizes (one_M M i) (M.2.1.2.1 (nI i).toNatClampNeg) (M.2.1.2.2 (nI i).toNatClampNeg) = _
      rw [ci, h6, h7]
    have m3 : mfr M (B_m_alone_3 M 9 (nI i)) := by rw [h3']; exact ⟨rfl, rfl⟩
    have s3 := ms_size (M := one_M M i) h3 ga gb
    rw [← h3'] at s3
    have h4' : B_m_alone_4 M 9 (nI i) = S_m_span (B_m_alone_3 M 9 (nI i)) (zL (ph (tm (szl a b) (szl a b)))) (zL (ph (tm (szl a b) (szl a b)))) (zL (2 ^ fb e m)) := by
      unfold B_m_alone_4
      rw [s3.1, pr_ok (mfr_w m3 hm) gl gl gl gl]
      generalize tm (szl a b) (szl a b) = T
      rw [show min (min T T) (min T T) = T by omega, show max (max T T) (max T T) = T by omega]
    obtain ⟨tf1, tf2, tf3⟩ := tm_fin hlb
    have s4 := span_ok (M := B_m_alone_3 M 9 (nI i)) (mfr_w m3 hm) rfl rfl rfl tf1 tf2 hD0 (by omega)
    rw [← h4'] at s4
    have m4 : mfr M (B_m_alone_4 M 9 (nI i)) := mfr_tr m3 s4.1
    have h5' : B_m_alone_5 M 9 (nI i) = S_m_sizes (B_m_alone_4 M 9 (nI i)) (zL (ph a)) (zL (ph b)) := by
      unfold B_m_alone_5
      rw [m4.2, ci, h6, h7]
    have s5 := ms_size (M := B_m_alone_4 M 9 (nI i)) h3 ga gb
    rw [← h5'] at s5
    have m5 : mfr M (B_m_alone_5 M 9 (nI i)) := by rw [h5']; exact mfr_tr m4 (ms_fr _ _ _)
    have h6' : B_m_alone_6 M 9 (nI i) = S_m_span (B_m_alone_5 M 9 (nI i)) (zL (ph (tm (max (-a) b) (max (-a) b)))) (zL (ph (tm (max (-a) b) (max (-a) b)))) (zL (2 ^ fb e m)) := by
      unfold B_m_alone_6
      rw [s5.2, pr_ok (mfr_w m5 hm) gh gh gh gh]
      generalize tm (max (-a) b) (max (-a) b) = T
      rw [show min (min T T) (min T T) = T by omega, show max (max T T) (max T T) = T by omega]
    have th := tm_ord he hmm hlb hl.2 hh hle
    have s6a := span_fr (M := B_m_alone_5 M 9 (nI i)) (X := zL (ph (tm (max (-a) b) (max (-a) b)))) (Y := zL (ph (tm (max (-a) b) (max (-a) b)))) (D := zL (2 ^ fb e m))
    have s6b := span_hi (M := B_m_alone_5 M 9 (nI i)) (X := zL (ph (tm (max (-a) b) (max (-a) b)))) (mfr_w m5 hm) (y := tm (max (-a) b) (max (-a) b)) rfl rfl th.1 hD0 (by omega)
    rw [← h6'] at s6a s6b
    have m6 := mfr_tr m5 s6a.1
    have m7 : mfr M (B_m_alone_7 M 9 (nI i)) := by unfold B_m_alone_7; exact mfr_tr m6 (mf_mf _ _)
    have k1 : (B_m_alone_7 M 9 (nI i)).2.2.1.1 = true := by unfold B_m_alone_7; rw [mf_is]; exact s6a.2
    have k2 : (B_m_alone_7 M 9 (nI i)).2.2.1.2.1 = zL (ph (nA e m (dv (tm (szl a b) (szl a b)) (2 ^ fb e m)))) := by unfold B_m_alone_7; rw [mf_fr]; exact s4.2.2.1
    have k3 : (B_m_alone_7 M 9 (nI i)).2.2.1.2.2 = zL (ph (nB e m (-(dv (-(tm (max (-a) b) (max (-a) b))) (2 ^ fb e m))))) := by unfold B_m_alone_7; rw [mf_to]; exact s6b
    refine ⟨cfr_tr (be_f (by omega)) (be_f (by omega)), m7, Or.inr ⟨k1, _, _, be_at _ _ _ _, ?_, dv_lo tf1 hD0, dv_hi th.1 hD0, k2, k3⟩⟩
    exact Int.le_trans (dv_mono (glo_gd tf1) (ghi_gd th.1) hD0 th.2) (dv_fc hD0)
theorem isq_mono {v w r s : Nat} (h1 : isq v r) (h2 : isq w s) (h : v ≤ w) : r ≤ s := by
  refine Nat.le_of_not_lt (fun q => ?_)
  have := Nat.mul_le_mul (show s + 1 ≤ r from q) (show s + 1 ≤ r from q)
  have := h1.1
  have := h2.2
  omega
theorem one_10 (hw : cwd c e m) (hm : mwd M e m) (hr : rlp e m c M) (hi : i < 8) : twok e m c M (S_reckonOne c 10 i) (S_m_alone M 10 (nI i)) := by
  rcases hr i hi with ⟨h1, h2⟩ | ⟨h1, a, b, h2, h3, h4, h5, h6, h7⟩
  · exact one_e hi h1 h2
  · have he := hm.2.1.2
    have hmm := hm.2.2.2
    have ga := ge_gd (elo_ge he hmm h4)
    have gb := ge_gd (ehi_ge he hmm h5)
    have ci : (nI i).toNatClampNeg = i := nI_clamp (by omega)
    have hf := fb_lt hm.2.1 hm.2.2
    have hD := pw16 hm.2.1 hm.2.2
    have hDn : ((2 ^ fb e m : Nat) : Int) = (2 : Int) ^ fb e m := Int.natCast_pow _ _
    have hD16 : 2 ^ fb e m ≤ 65536 := by omega
    rw [one_cb (by rw [h2]; exact (zl_le (gd_zr ga) (gd_zr gb)).mpr h3), one_mb hi h1, if_neg (by decide), if_neg (by decide), if_pos rfl, if_neg (by decide), if_neg (by decide), if_pos rfl]
    have h8' : B_m_alone_8 M 10 (nI i) = S_m_roots (one_M M i) (zL (ph a)) (zL (ph b)) := by
      show S_m_roots (one_M M i) (M.2.1.2.1 (nI i).toNatClampNeg) (M.2.1.2.2 (nI i).toNatClampNeg) = _
      rw [ci, h6, h7]
    rw [h8']
    unfold S_takeRoot
    rw [h2]
    dsimp only
    have sb := ph_sg gb
    have sa := ph_sg ga
    have r1is : (B_m_roots_1 (one_M M i) (zL (ph a)) (zL (ph b))).2.2.1.1 = z_t (if zL (ph b) < (0 : Int64) then (0 : Int32) else 1) := rfl
    by_cases hb0 : 0 ≤ b
    · rw [if_pos ((zl_0le (gd_zr gb)).mpr hb0)]
      rw [if_neg (fun q => absurd ((zl_lt0 (ph_zr gb)).mp q) (by have := sb.1; omega)), z_tt] at r1is
      have hM : S_m_roots (one_M M i) (zL (ph a)) (zL (ph b)) = (if F_m_isEnd (zL (ph b)) = 0 then mp_to (B_m_roots_3 (one_M M i) (zL (ph a)) (zL (ph b))) mw_far else B_m_roots_5 (one_M M i) (zL (ph a)) (zL (ph b))) := by
        unfold S_m_roots
        rw [if_neg (fun q => by have := z_i0.mp q; rw [r1is] at this; cases this)]
      rw [hM]
      have hmR1 : mwd (B_m_roots_1 (one_M M i) (zL (ph a)) (zL (ph b))) e m := hm
      have hmR3 : mwd (B_m_roots_3 (one_M M i) (zL (ph a)) (zL (ph b))) e m := hm
      -- the lower end
      have hA0 : 0 ≤ max a 0 ∧ max a 0 < 16777216 := by
        rcases h4 with h4 | h4
        · omega
        · have := fin_b he hmm h4; omega
      obtain ⟨n, hn⟩ := Int.eq_ofNat_of_zero_le hA0.1
      have hv1 : n * 2 ^ fb e m < 1099511627776 := by
        have : n * 2 ^ fb e m ≤ 16777215 * 65536 := Nat.mul_le_mul (by omega) hD16
        omega
      obtain ⟨r, ra, rb, rc, rd9⟩ := rt_ex hv1
      have hlo : F_rootNotAbove c (z_max (zL a) 0) = zL (r : Int) := by
        unfold F_rootNotAbove
        rw [zl_0, zmax (gd_zr ga) zr_0, cs_unit hw, hn, zl_nat, ln_shl _ (by omega), ra, zl_nat]
      have hlom : A_m_roots_2 (one_M M i) (zL (ph a)) (zL (ph b)) = zL (r : Int) := by
        unfold A_m_roots_2
        by_cases h0 : a ≤ 0
        · rw [if_pos ((zl_le0 (ph_zr ga)).mpr (sa.2.1.mpr h0))]
          have hn0 : n = 0 := by omega
          subst hn0
          rw [Nat.zero_mul] at rc
          have hr0 : r = 0 := isq_un rc ⟨by decide, by decide⟩
          subst hr0
          rfl
        · have hpa : ph a = a := by
            have := fin_b he hmm (h4.resolve_left (by omega))
            exact ph_id (by omega) (by omega)
          rw [if_neg (fun q => h0 (sa.2.1.mp ((zl_le0 (ph_zr ga)).mp q))), ms_fine hmR1, hpa, show a = (n : Int) by omega, zl_nat, ln_shl _ (by omega), rb, zl_nat]
      have hfrom : (B_m_roots_3 (one_M M i) (zL (ph a)) (zL (ph b))).2.2.1.2.1 = zL (ph (nA e m (r : Int))) := by
        show F_m_rounded (B_m_roots_1 (one_M M i) (zL (ph a)) (zL (ph b))) (A_m_roots_2 (one_M M i) (zL (ph a)) (zL (ph b))) 1 0 = _
        rw [hlom, zl_1, ms_dn hmR1 (by omega) (by omega) (by omega) (by omega), Int.ediv_one]
      rw [hlo]
      rcases h5 with h5 | h5
      · -- endless above
        have e1 := (mi_end (ph_zr gb)).mpr (by rw [ph_end gb]; exact fun q => q (Or.inl h5))
        rw [if_pos e1]
        have hhi : F_rootNotBelow c (zL b) = zL 1152921504606846976 := by
          unfold F_rootNotBelow
          rw [if_pos (by rw [h5]; rfl)]
          rfl
        rw [hhi]
        refine ⟨be_f (by omega), ⟨rfl, rfl⟩, Or.inr ⟨r1is, _, _, be_at _ _ _ _, by omega, by unfold glo; omega, Or.inl rfl, hfrom, ?_⟩⟩
        rw [nB_self he hmm (Or.inl rfl)]
        rfl
      · have hbb := fin_b he hmm h5
        have hpb : ph b = b := ph_id (by omega) (by omega)
        have e1 : ¬ F_m_isEnd (zL (ph b)) = 0 := fun q => (mi_end (ph_zr gb)).mp q (by rw [hpb]; omega)
        rw [if_neg e1]
        obtain ⟨k, hk⟩ := Int.eq_ofNat_of_zero_le hb0
        have hv2 : k * 2 ^ fb e m < 1099511627776 := by
          have : k * 2 ^ fb e m ≤ 16777215 * 65536 := Nat.mul_le_mul (by omega) hD16
          omega
        obtain ⟨s, sA, sB, sC, sD⟩ := rt_ex hv2
        have hss : s * s ≤ 33554432 * 33554432 := Nat.mul_le_mul (by omega) (by omega)
        have hhi : F_rootNotBelow c (zL b) = zL ((if s * s = k * 2 ^ fb e m then s else s + 1 : Nat) : Int) := by
          unfold F_rootNotBelow
          rw [if_neg (fun q => by
            have : b = 1152921504606846976 := (zl_eq (gd_zr gb) (by unfold zR; omega)).mp (q.trans zl_inf)
            omega), cs_unit hw, hk, zl_nat, ln_shl _ (by omega), sA, lN_mul]
          by_cases h0 : s * s = k * 2 ^ fb e m
          · rw [if_pos h0, if_pos (by rw [h0]; exact (pk_lLE (by omega) (by omega)).mpr (Nat.le_refl _)), zl_nat]
          · rw [if_neg h0, if_neg (fun q => h0 (Nat.le_antisymm sC.1 ((pk_lLE (by omega) (by omega)).mp q))), lN_1, zl_nat]
        have h4r : A_m_roots_4 (one_M M i) (zL (ph a)) (zL (ph b)) = lN s := by
          unfold A_m_roots_4
          rw [ms_fine hmR3, hpb, hk, zl_nat, ln_shl _ (by omega), sB]
        have hsh : zL (ph b) <<< ((nI (fb e m)).toInt64 &&& 63) = lN (k * 2 ^ fb e m) := by
          rw [hpb, hk, zl_nat, ln_shl _ (by omega)]
        have hto : (B_m_roots_5 (one_M M i) (zL (ph a)) (zL (ph b))).2.2.1.2.2 = zL (ph (nB e m ((if s * s = k * 2 ^ fb e m then s else s + 1 : Nat) : Int))) := by
          rw [rt5, h4r, ms_fine hmR3, hsh, lN_mul]
          by_cases h0 : s * s = k * 2 ^ fb e m
          · rw [if_pos h0, if_pos (by rw [h0]), ← zl_nat s, zl_2, zl_mul, ms_up hmR3 (by omega) (by omega) (by omega) (by omega), show -(-(2 * (s : Int)) / 2) = (s : Int) by omega]
          · rw [if_neg h0, if_neg (fun q => h0 ((pk_lEQ (by omega) (by omega)).mp q)), ← zl_nat s, zl_2, zl_1, zl_mul, zl_add, ms_up hmR3 (by omega) (by omega) (by omega) (by omega), show -(-(2 * (s : Int) + 1) / 2) = ((s + 1 : Nat) : Int) by omega]
        rw [hhi]
        have hrs : r ≤ s := isq_mono rc sC (Nat.mul_le_mul_right _ (by omega))
        have hR : r ≤ (if s * s = k * 2 ^ fb e m then s else s + 1) ∧ (if s * s = k * 2 ^ fb e m then s else s + 1) ≤ 33554432 := by split <;> omega
        exact ⟨be_f (by omega), ⟨rfl, rfl⟩, Or.inr ⟨r1is, _, _, be_at _ _ _ _, by omega, by unfold glo; omega, by unfold ghi; omega, hfrom, hto⟩⟩
    · rw [if_neg (fun q => hb0 ((zl_0le (gd_zr gb)).mp q)), be_e]
      rw [if_pos ((zl_lt0 (ph_zr gb)).mpr (by have := sb.1; omega)), z_tf] at r1is
      have hM : S_m_roots (one_M M i) (zL (ph a)) (zL (ph b)) = B_m_roots_1 (one_M M i) (zL (ph a)) (zL (ph b)) := by
        unfold S_m_roots
        rw [if_pos (z_i0.mpr r1is)]
      rw [hM]
      exact ⟨be_f (by omega), ⟨rfl, rfl⟩, kps_e r1is (by rw [be_at]; exact e10)⟩
end ONE
