-- quotients of places
section DIV
variable {c : cw_C} {M : mw_C} {e m i j : Nat}
theorem rat_fr (M : mw_C) (X Y Z V : Int64) : mfr M (S_m_ratio M X Y Z V) ∧ (S_m_ratio M X Y Z V).2.2.1 = M.2.2.1 := by
  unfold S_m_ratio
  split
  · exact ⟨⟨rfl, rfl⟩, rfl⟩
  · exact ⟨⟨rfl, rfl⟩, rfl⟩
theorem ra1 (M : mw_C) (X Y Z V : Int64) : (B_m_ratio_1 M X Y Z V).2.2.2.1 = z_t (if V ≤ 0 then 0 else 1) := rfl
theorem ra3 (M : mw_C) (X Y Z V : Int64) : (B_m_ratio_3 M X Y Z V).2.2.2.1 = (B_m_ratio_1 M X Y Z V).2.2.2.1 := rfl
theorem ra3f (M : mw_C) (X Y Z V : Int64) : (B_m_ratio_3 M X Y Z V).2.2.2.2.1 = (if (0 : Int64) ≤ X then F_m_quotient (B_m_ratio_1 M X Y Z V) X V (0 : Int32) else F_m_quotient (B_m_ratio_1 M X Y Z V) X Z (0 : Int32)) := rfl
theorem ra3t (M : mw_C) (X Y Z V : Int64) : (B_m_ratio_3 M X Y Z V).2.2.2.2.2 = (if Y ≤ (0 : Int64) then F_m_quotient (B_m_ratio_2 M X Y Z V) Y V (1 : Int32) else F_m_quotient (B_m_ratio_2 M X Y Z V) Y Z (1 : Int32)) := rfl
theorem raw1 {X Y Z V : Int64} (h : mwd M e m) : mwd (B_m_ratio_1 M X Y Z V) e m := h
theorem raw2 {X Y Z V : Int64} (h : mwd M e m) : mwd (B_m_ratio_2 M X Y Z V) e m := h
theorem rat_ok (hm : mwd M e m) {x y z v : Int} (lx : glo x) (gx : ge x) (hy : ghi y) (gy : ge y) (lz : glo z) (gz : ge z) (gv : ge v) :
    (v ≤ 0 ∧ (S_m_ratio M (zL (ph x)) (zL (ph y)) (zL (ph z)) (zL (ph v))).2.2.2.1 = false) ∨ (0 < v ∧ (S_m_ratio M (zL (ph x)) (zL (ph y)) (zL (ph z)) (zL (ph v))).2.2.2.1 = true ∧ (S_m_ratio M (zL (ph x)) (zL (ph y)) (zL (ph z)) (zL (ph v))).2.2.2.2.1 = zL (ph (nA e m (lq e m x (max z 0) v))) ∧ (S_m_ratio M (zL (ph x)) (zL (ph y)) (zL (ph z)) (zL (ph v))).2.2.2.2.2 = zL (ph (nB e m (-(lq e m (-y) (max z 0) v))))) := by
  have sv := ph_sg (ge_gd gv)
  have h1 := ra1 M (zL (ph x)) (zL (ph y)) (zL (ph z)) (zL (ph v))
  unfold S_m_ratio
  by_cases h0 : v ≤ 0
  · rw [if_pos ((zl_le0 (ph_zr (ge_gd gv))).mpr (sv.2.1.mpr h0)), z_tf] at h1
    rw [if_pos (z_i0.mpr h1)]
    exact Or.inl ⟨h0, h1⟩
  · rw [if_neg (fun q => h0 (sv.2.1.mp ((zl_le0 (ph_zr (ge_gd gv))).mp q))), z_tt] at h1
    rw [if_neg (fun q => by have h9 := z_i0.mp q; rw [h1] at h9; cases h9)]
    refine Or.inr ⟨by omega, ?_, ?_, ?_⟩
    · rw [ra3]; exact h1
    · rw [ra3f]; exact ms_qlo (raw1 hm) lx gx lz gz gv (by omega)
    · rw [ra3t]; exact ms_qhi (raw2 hm) hy gy lz gz gv (by omega)
theorem dba_ok (hw : cwd c e m) {u t : Nat} {a b x y : Int} (h : c.2.2 u = (zL a, zL b)) (la : glo a) (ga : ge a) (hb : ghi b) (gb : ge b) (gx : ge x) (gy : ge y) :
    (0 < y ∧ S_divideByAbove c u (zL x) (zL y) t = S_become c t (zL (lq e m a (max x 0) y)) (zL (-(lq e m (-b) (max x 0) y)))) ∨ (y ≤ 0 ∧ S_divideByAbove c u (zL x) (zL y) t = S_become c t 1 0) := by
  unfold S_divideByAbove
  have gm : ge (max x 0) := by unfold ge at gx ⊢; omega
  by_cases h0 : 0 < y
  · refine Or.inl ⟨h0, ?_⟩
    rw [if_pos ((zl_0lt (gd_zr (ge_gd gy))).mpr h0), h]
    dsimp only
    rw [zl_0, zmax (gd_zr (ge_gd gx)) zr_0, zl_neg, cs_lq hw la ga gm gy, cs_lq hw (ghi_neg hb) (ge_neg gb) gm gy, zl_neg]
  · refine Or.inr ⟨by omega, ?_⟩
    rw [if_neg (fun q => h0 ((zl_0lt (gd_zr (ge_gd gy))).mp q)), be_e]
theorem dba_f {u t : Nat} {X Y : Int64} (ht : 8 ≤ t) : cfr c (S_divideByAbove c u X Y t) := by
  unfold S_divideByAbove
  split
  · exact be_f ht
  · rw [be_e]; exact be_f ht
theorem div_e (h : ¬ (c.2.2 i).1 ≤ (c.2.2 i).2 ∨ ¬ (c.2.2 j).1 ≤ (c.2.2 j).2) : S_divide c i j = S_become (S_become c 8 1 0) 9 1 0 := by
  unfold S_divide
  by_cases h1 : (c.2.2 i).1 ≤ (c.2.2 i).2
  · rw [if_pos (ie_0.mpr h1), if_neg (fun q => h.elim (fun g => g h1) (fun g => g (ie_0.mp q)))]
    rfl
  · rw [if_neg (fun q => h1 (ie_0.mp q))]
    rfl
theorem div_9 (c2 : cw_C) : cfr c2 (if F_isEmpty c2 9 = 0 then S_become c2 9 (-((c2.2.2 9).2)) (-((c2.2.2 9).1)) else c2) ∧ (if F_isEmpty c2 9 = 0 then S_become c2 9 (-((c2.2.2 9).2)) (-((c2.2.2 9).1)) else c2).2.2 8 = c2.2.2 8 := by
  split
  · exact ⟨be_f (by omega), be_ne _ _ _ (by omega)⟩
  · exact ⟨cfr_rf _, rfl⟩
theorem div_9n {c2 : cw_C} (h : ¬ (c2.2.2 9).1 ≤ (c2.2.2 9).2) : (if F_isEmpty c2 9 = 0 then S_become c2 9 (-((c2.2.2 9).2)) (-((c2.2.2 9).1)) else c2) = c2 := if_neg (fun q => h (ie_0.mp q))
theorem div_9y {c2 : cw_C} {x y : Int} (h : c2.2.2 9 = (zL x, zL y)) (hx : zR x) (hy : zR y) (hxy : x ≤ y) : (if F_isEmpty c2 9 = 0 then S_become c2 9 (-((c2.2.2 9).2)) (-((c2.2.2 9).1)) else c2).2.2 9 = (zL (-y), zL (-x)) := by
  rw [if_pos (ie_0.mpr (by rw [h]; exact (zl_le hx hy).mpr hxy)), be_at, h]
  dsimp only
  rw [zl_neg, zl_neg]
theorem div_ok (hw : cwd c e m) (hi : i < 8) (hj : j < 8) {a b p q : Int} (ci : c.2.2 i = (zL a, zL b)) (cj : c.2.2 j = (zL p, zL q)) (la : glo a) (ga : ge a) (hb : ghi b) (gb : ge b) (lp : glo p) (gp : ge p) (hq : ghi q) (gq : ge q) (hab : a ≤ b) (hpq : p ≤ q) :
    cfr c (S_divide c i j) ∧ ((0 < q ∧ (S_divide c i j).2.2 8 = (zL (lq e m a (max p 0) q), zL (-(lq e m (-b) (max p 0) q)))) ∨ (q ≤ 0 ∧ (S_divide c i j).2.2 8 = (1, 0))) ∧ ((0 < -p ∧ (S_divide c i j).2.2 9 = (zL (lq e m (-b) (max (-q) 0) (-p)), zL (-(lq e m a (max (-q) 0) (-p))))) ∨ (-p ≤ 0 ∧ (S_divide c i j).2.2 9 = (1, 0))) := by
  have hE : S_divide c i j = (if F_isEmpty (S_divideByAbove (S_divideByAbove c i (zL p) (zL q) 8) i (zL (-q)) (zL (-p)) 9) 9 = 0 then S_become (S_divideByAbove (S_divideByAbove c i (zL p) (zL q) 8) i (zL (-q)) (zL (-p)) 9) 9 (-(((S_divideByAbove (S_divideByAbove c i (zL p) (zL q) 8) i (zL (-q)) (zL (-p)) 9).2.2 9).2)) (-(((S_divideByAbove (S_divideByAbove c i (zL p) (zL q) 8) i (zL (-q)) (zL (-p)) 9).2.2 9).1)) else (S_divideByAbove (S_divideByAbove c i (zL p) (zL q) 8) i (zL (-q)) (zL (-p)) 9)) := by
    unfold S_divide
    rw [if_pos (ie_0.mpr (by rw [ci]; exact (zl_le (gd_zr (ge_gd ga)) (gd_zr (ge_gd gb))).mpr hab)), if_pos (ie_0.mpr (by rw [cj]; exact (zl_le (gd_zr (ge_gd gp)) (gd_zr (ge_gd gq))).mpr hpq)), cj]
    dsimp only
    have f1 : cfr c (S_divideByAbove c i (zL p) (zL q) 8) := dba_f (by omega)
    rw [show (S_divideByAbove c i (zL p) (zL q) 8).2.2 j = (zL p, zL q) from (f1.2.2 j hj).trans cj]
    dsimp only
    rw [zl_neg, zl_neg]
  have f1 : cfr c (S_divideByAbove c i (zL p) (zL q) 8) := dba_f (by omega)
  have d1 := dba_ok (t := 8) hw ci la ga hb gb gp gq
  generalize S_divideByAbove c i (zL p) (zL q) 8 = c1 at hE f1 d1
  have d2 := dba_ok (t := 9) (cfr_w f1 hw) ((f1.2.2 i hi).trans ci) la ga hb gb (ge_neg gq) (ge_neg gp)
  have f2 : cfr c1 (S_divideByAbove c1 i (zL (-q)) (zL (-p)) 9) := dba_f (by omega)
  generalize S_divideByAbove c1 i (zL (-q)) (zL (-p)) 9 = c2 at hE f2 d2
  have n9 := div_9 c2
  have e8 : c2.2.2 8 = c1.2.2 8 := by
    rcases d2 with ⟨_, h⟩ | ⟨_, h⟩
    · rw [h]; exact be_ne _ _ _ (by omega)
    · rw [h]; exact be_ne _ _ _ (by omega)
  refine ⟨?_, ?_, ?_⟩
  · rw [hE]; exact cfr_tr f1 (cfr_tr f2 n9.1)
  · rw [hE, n9.2, e8]
    rcases d1 with ⟨h0, h⟩ | ⟨h0, h⟩
    · left; exact ⟨h0, by rw [h]; exact be_at _ _ _ _⟩
    · right; exact ⟨h0, by rw [h]; exact be_at _ _ _ _⟩
  · rw [hE]
    rcases d2 with ⟨h0, h⟩ | ⟨h0, h⟩
    · left
      refine ⟨h0, ?_⟩
      have h9 : c2.2.2 9 = (zL (lq e m a (max (-q) 0) (-p)), zL (-(lq e m (-b) (max (-q) 0) (-p)))) := by rw [h]; exact be_at _ _ _ _
      have g1 := lq_gd hw.2.1 hw.2.2 (y := max (-q) 0) (z := -p) la ga
      have g2 := lq_gd hw.2.1 hw.2.2 (y := max (-q) 0) (z := -p) (ghi_neg hb) (ge_neg gb)
      have ho := lq_le hw.2.1 hw.2.2 (a := max (-q) 0) (b := -p) la ga hb gb hab (by omega) h0 (by omega)
      rw [div_9y h9 (gd_zr (glo_gd g1)) (zr_neg (gd_zr (glo_gd g2))) ho, Int.neg_neg]
    · right
      have h9 : c2.2.2 9 = (1, 0) := by rw [h]; exact be_at _ _ _ _
      rw [div_9n (by rw [h9]; exact e10)]
      exact ⟨h0, h9⟩
/-- the made one and the second against the reference's ratios -/
theorem div_k (hw : cwd c e m) (hi : i < 8) (hj : j < 8) {a b p q : Int} (ci : c.2.2 i = (zL a, zL b)) (cj : c.2.2 j = (zL p, zL q)) (la : glo a) (ga : ge a) (hb : ghi b) (gb : ge b) (lp : glo p) (gp : ge p) (hq : ghi q) (gq : ge q) (hab : a ≤ b) (hpq : p ≤ q) {M1 M2 : mw_C} (h1 : mwd M1 e m) (h2 : mwd M2 e m) :
    cfr c (S_divide c i j) ∧ kps e m ((S_divide c i j).2.2 8) (S_m_ratio M1 (zL (ph a)) (zL (ph b)) (zL (ph p)) (zL (ph q))).2.2.2.1 (S_m_ratio M1 (zL (ph a)) (zL (ph b)) (zL (ph p)) (zL (ph q))).2.2.2.2.1 (S_m_ratio M1 (zL (ph a)) (zL (ph b)) (zL (ph p)) (zL (ph q))).2.2.2.2.2 ∧
    kps e m ((S_divide c i j).2.2 9) (S_m_ratio M2 (zL (ph (-b))) (zL (ph (-a))) (zL (ph (-q))) (zL (ph (-p)))).2.2.2.1 (S_m_ratio M2 (zL (ph (-b))) (zL (ph (-a))) (zL (ph (-q))) (zL (ph (-p)))).2.2.2.2.1 (S_m_ratio M2 (zL (ph (-b))) (zL (ph (-a))) (zL (ph (-q))) (zL (ph (-p)))).2.2.2.2.2 := by
  obtain ⟨k1, k2, k3⟩ := div_ok hw hi hj ci cj la ga hb gb lp gp hq gq hab hpq
  have r1 := rat_ok (x := a) (y := b) (z := p) (v := q) h1 la ga hb gb lp gp gq
  have r2 := rat_ok (x := -b) (y := -a) (z := -q) (v := -p) h2 (ghi_neg hb) (ge_neg gb) (glo_neg la) (ge_neg ga) (ghi_neg hq) (ge_neg gq) (ge_neg gp)
  rw [Int.neg_neg] at r2
  refine ⟨k1, ?_, ?_⟩
  · rcases k2 with ⟨h0, h⟩ | ⟨h0, h⟩
    · rcases r1 with ⟨g0, _⟩ | ⟨_, t1, t2, t3⟩
      · omega
      · exact Or.inr ⟨t1, _, _, h, lq_le hw.2.1 hw.2.2 la ga hb gb hab (by omega) h0 (by omega), lq_gd hw.2.1 hw.2.2 la ga, glo_neg (lq_gd hw.2.1 hw.2.2 (ghi_neg hb) (ge_neg gb)), t2, t3⟩
    · rcases r1 with ⟨_, t1⟩ | ⟨g0, _⟩
      · exact kps_e t1 (by rw [h]; exact e10)
      · omega
  · rcases k3 with ⟨h0, h⟩ | ⟨h0, h⟩
    · rcases r2 with ⟨g0, _⟩ | ⟨_, t1, t2, t3⟩
      · omega
      · have ho := lq_le hw.2.1 hw.2.2 (x := -b) (y := -a) (a := max (-q) 0) (b := -p) (ghi_neg hb) (ge_neg gb) (glo_neg la) (ge_neg ga) (by omega) (by omega) h0 (by omega)
        rw [Int.neg_neg] at ho
        exact Or.inr ⟨t1, _, _, h, ho, lq_gd hw.2.1 hw.2.2 (ghi_neg hb) (ge_neg gb), glo_neg (lq_gd hw.2.1 hw.2.2 la ga), t2, t3⟩
    · rcases r2 with ⟨_, t1⟩ | ⟨g0, _⟩
      · exact kps_e t1 (by rw [h]; exact e10)
      · omega
theorem nA_min (he : e ≤ 4) (hm : m ≤ 10) (x y : Int) : min (nA e m x) (nA e m y) = nA e m (min x y) := by
  by_cases h : x ≤ y
  · have := nA_mono he hm h
    rw [show min x y = x by omega]; omega
  · have := nA_mono he hm (show y ≤ x by omega)
    rw [show min x y = y by omega]; omega
theorem nB_max (he : e ≤ 4) (hm : m ≤ 10) (x y : Int) : max (nB e m x) (nB e m y) = nB e m (max x y) := by
  by_cases h : x ≤ y
  · have := nB_mono he hm h
    rw [show max x y = y by omega]; omega
  · have := nB_mono he hm (show y ≤ x by omega)
    rw [show max x y = x by omega]; omega
/-- what the reference lays together of its two ratios -/
def djo (i1 : Bool) (f1 t1 : Int64) (i2 : Bool) (f2 t2 : Int64) : Bool × Int64 × Int64 :=
  if i2 = false then (i1, f1, t1) else (true, (if i1 = false then f2 else if f2 ≤ f1 then f2 else f1), (if i1 = false then t2 else if t1 ≤ t2 then t2 else t1))
theorem djo_ok (he : e ≤ 4) (hmm : m ≤ 10) {c' : cw_C} {i1 i2 : Bool} {f1 t1 f2 t2 : Int64} (k8 : kps e m (c'.2.2 8) i1 f1 t1) (k9 : kps e m (c'.2.2 9) i2 f2 t2) :
    cfr c' (S_join c' 8 9) ∧ kps e m ((S_join c' 8 9).2.2 8) (djo i1 f1 t1 i2 f2 t2).1 (djo i1 f1 t1 i2 f2 t2).2.1 (djo i1 f1 t1 i2 f2 t2).2.2 := by
  unfold S_join djo
  rcases k9 with ⟨u1, u2⟩ | ⟨u1, p, q, u2, u3, u4, u5, u6, u7⟩
  · rw [if_pos u1]
    rcases k8 with ⟨h1, h2⟩ | ⟨h1, a, b, h2, h3, h4, h5, h6, h7⟩
    · rw [if_neg (fun q => h2 (ie_0.mp q))]
      exact ⟨be_f (by omega), by rw [be_at]; exact kps_e h1 u2⟩
    · rw [if_pos (ie_0.mpr (by rw [h2]; exact (zl_le (gd_zr (glo_gd h4)) (gd_zr (ghi_gd h5))).mpr h3)), if_neg (fun q => u2 (ie_0.mp q))]
      exact ⟨be_f (by omega), by rw [be_at]; exact Or.inr ⟨h1, a, b, h2, h3, h4, h5, h6, h7⟩⟩
  · rw [if_neg (show ¬ i2 = false by rw [u1]; decide)]
    rcases k8 with ⟨h1, h2⟩ | ⟨h1, a, b, h2, h3, h4, h5, h6, h7⟩
    · rw [if_neg (fun q => h2 (ie_0.mp q)), if_pos h1, if_pos h1]
      exact ⟨be_f (by omega), by rw [be_at]; exact Or.inr ⟨rfl, p, q, u2, u3, u4, u5, u6, u7⟩⟩
    · rw [if_pos (ie_0.mpr (by rw [h2]; exact (zl_le (gd_zr (glo_gd h4)) (gd_zr (ghi_gd h5))).mpr h3)), if_pos (ie_0.mpr (by rw [u2]; exact (zl_le (gd_zr (glo_gd u4)) (gd_zr (ghi_gd u5))).mpr u3)), if_neg (show ¬ i1 = false by rw [h1]; decide), if_neg (show ¬ i1 = false by rw [h1]; decide)]
      refine ⟨be_f (by omega), ?_⟩
      rw [be_at, h2, u2]
      dsimp only
      rw [zmin (gd_zr (glo_gd h4)) (gd_zr (glo_gd u4)), zmax (gd_zr (ghi_gd h5)) (gd_zr (ghi_gd u5))]
      have ga := glo_gd (elo_g he hmm (nA_lo (e := e) (m := m) h4))
      have gp := glo_gd (elo_g he hmm (nA_lo (e := e) (m := m) u4))
      have gb := ghi_gd (ehi_g he hmm (nB_hi (e := e) (m := m) h5))
      have gq := ghi_gd (ehi_g he hmm (nB_hi (e := e) (m := m) u5))
      refine Or.inr ⟨rfl, _, _, rfl, by omega, by unfold glo at *; omega, by unfold ghi at *; omega, ?_, ?_⟩
      · rw [h6, u6, ← nA_min he hmm]
        by_cases h : nA e m p ≤ nA e m a
        · rw [if_pos ((zl_le (ph_zr gp) (ph_zr ga)).mpr ((ph_le gp ga).mpr h)), show min (nA e m a) (nA e m p) = nA e m p by omega]
        · rw [if_neg (fun q => h ((ph_le gp ga).mp ((zl_le (ph_zr gp) (ph_zr ga)).mp q))), show min (nA e m a) (nA e m p) = nA e m a by omega]
      · rw [h7, u7, ← nB_max he hmm]
        by_cases h : nB e m b ≤ nB e m q
        · rw [if_pos ((zl_le (ph_zr gb) (ph_zr gq)).mpr ((ph_le gb gq).mpr h)), show max (nB e m b) (nB e m q) = nB e m q by omega]
        · rw [if_neg (fun q => h ((ph_le gb gq).mp ((zl_le (ph_zr gb) (ph_zr gq)).mp q))), show max (nB e m b) (nB e m q) = nB e m b by omega]
theorem fld_4 (D : mw_C) : mfr D (mp_to (mp_from (mp_is D (z_t (z_i D.2.2.2.1))) (mp_is D (z_t (z_i D.2.2.2.1))).2.2.2.2.1) (mp_from (mp_is D (z_t (z_i D.2.2.2.1))) (mp_is D (z_t (z_i D.2.2.2.1))).2.2.2.2.1).2.2.2.2.2) ∧ (mp_to (mp_from (mp_is D (z_t (z_i D.2.2.2.1))) (mp_is D (z_t (z_i D.2.2.2.1))).2.2.2.2.1) (mp_from (mp_is D (z_t (z_i D.2.2.2.1))) (mp_is D (z_t (z_i D.2.2.2.1))).2.2.2.2.1).2.2.2.2.2).2.2.1 = (D.2.2.2.1, D.2.2.2.2.1, D.2.2.2.2.2) := by
  refine ⟨⟨rfl, rfl⟩, ?_⟩
  show (z_t (z_i D.2.2.2.1), D.2.2.2.2.1, D.2.2.2.2.2) = _
  rw [z_ti]
def d6 (D : mw_C) : mw_C := mp_from D (if (z_i (D.2.2.1.1)) = (0 : Int32) then D.2.2.2.2.1 else (if (D.2.2.2.2.1) ≤ (D.2.2.1.2.1) then D.2.2.2.2.1 else D.2.2.1.2.1))
def d7 (D : mw_C) : mw_C := mp_to D (if (z_i (D.2.2.1.1)) = (0 : Int32) then D.2.2.2.2.2 else (if (D.2.2.1.2.2) ≤ (D.2.2.2.2.2) then D.2.2.2.2.2 else D.2.2.1.2.2))
theorem d6_at (D : mw_C) : (d6 D).1 = D.1 ∧ (d6 D).2.1 = D.2.1 ∧ (d6 D).2.2.1.1 = D.2.2.1.1 ∧ (d6 D).2.2.1.2.1 = (if (z_i (D.2.2.1.1)) = (0 : Int32) then D.2.2.2.2.1 else (if (D.2.2.2.2.1) ≤ (D.2.2.1.2.1) then D.2.2.2.2.1 else D.2.2.1.2.1)) ∧ (d6 D).2.2.1.2.2 = D.2.2.1.2.2 ∧ (d6 D).2.2.2 = D.2.2.2 := ⟨rfl, rfl, rfl, rfl, rfl, rfl⟩
theorem d7_at (D : mw_C) : (d7 D).1 = D.1 ∧ (d7 D).2.1 = D.2.1 ∧ (d7 D).2.2.1.1 = D.2.2.1.1 ∧ (d7 D).2.2.1.2.1 = D.2.2.1.2.1 ∧ (d7 D).2.2.1.2.2 = (if (z_i (D.2.2.1.1)) = (0 : Int32) then D.2.2.2.2.2 else (if (D.2.2.1.2.2) ≤ (D.2.2.2.2.2) then D.2.2.2.2.2 else D.2.2.1.2.2)) := ⟨rfl, rfl, rfl, rfl, rfl⟩
theorem mi_at (D : mw_C) (v : Bool) : (mp_is D v).1 = D.1 ∧ (mp_is D v).2.1 = D.2.1 ∧ (mp_is D v).2.2.1.1 = v ∧ (mp_is D v).2.2.1.2.1 = D.2.2.1.2.1 ∧ (mp_is D v).2.2.1.2.2 = D.2.2.1.2.2 := ⟨rfl, rfl, rfl, rfl, rfl⟩
theorem d_fin (D : mw_C) : mfr D (if z_i D.2.2.2.1 = 0 then D else mp_is (d7 (d6 D)) (z_t 1)) ∧ (if z_i D.2.2.2.1 = 0 then D else mp_is (d7 (d6 D)) (z_t 1)).2.2.1 = djo D.2.2.1.1 D.2.2.1.2.1 D.2.2.1.2.2 D.2.2.2.1 D.2.2.2.2.1 D.2.2.2.2.2 := by
  unfold djo
  by_cases h : D.2.2.2.1 = false
  · rw [if_pos (z_i0.mpr h), if_pos h]
    exact ⟨⟨rfl, rfl⟩, rfl⟩
  · rw [if_neg (fun q => h (z_i0.mp q)), if_neg h]
    obtain ⟨a1, a2, a3, a4, a5, a6⟩ := d6_at D
    obtain ⟨b1, b2, b3, b4, b5⟩ := d7_at (d6 D)
    obtain ⟨c1, c2, c3, c4, c5⟩ := mi_at (d7 (d6 D)) (z_t 1)
    refine ⟨⟨(c1.trans b1).trans a1, (c2.trans b2).trans a2⟩, ?_⟩
    rw [a3, a5, a6] at b5
    have e1 : ∀ {α : Type} (x y : α), (if z_i D.2.2.1.1 = 0 then x else y) = (if D.2.2.1.1 = false then x else y) := by
      intro α x y
      by_cases g : D.2.2.1.1 = false
      · rw [if_pos g, if_pos (z_i0.mpr g)]
      · rw [if_neg g, if_neg (fun q => g (z_i0.mp q))]
    rw [e1] at a4 b5
    refine Prod.ext (c3.trans z_tt) (Prod.ext ?_ ?_)
    · exact (c4.trans b4).trans a4
    · exact c5.trans b5
theorem d_fin2 {D : mw_C} {a : Bool} {f t : Int64} (hs : D.2.2.1 = (a, f, t)) : (if z_i D.2.2.2.1 = 0 then D else mp_is (d7 (d6 D)) (z_t 1)).2.2.1 = djo a f t D.2.2.2.1 D.2.2.2.2.1 D.2.2.2.2.2 := by
  have h := (d_fin D).2
  rw [hs] at h
  exact h
theorem d7_is (M : mw_C) (x y : Int32) : B_m_divide_7 M x y = d7 (d6 (B_m_divide_5 M x y)) := by
  unfold B_m_divide_7 B_m_divide_6 d7 d6
  rfl
theorem dv_2 (M : mw_C) (x y : Int32) : S_m_divide M x y = (if (z_i (M.2.1.1 x.toNatClampNeg)) = (0 : Int32) then mp_is M (z_t (0 : Int32)) else (if (z_i (M.2.1.1 y.toNatClampNeg)) = (0 : Int32) then mp_is M (z_t (0 : Int32)) else (if z_i (B_m_divide_5 M x y).2.2.2.1 = 0 then B_m_divide_5 M x y else mp_is (d7 (d6 (B_m_divide_5 M x y))) (z_t 1)))) := by
  unfold S_m_divide
  rw [(mi_at M (z_t 0)).2.1, d7_is]
theorem two_3 (hw : cwd c e m) (hm : mwd M e m) (hr : rlp e m c M) (hi : i < 8) (hj : j < 8) : twok e m c M (S_reckonTwo c 3 i j) (S_m_divide M (nI i) (nI j)) := by
  have ni : (nI i).toNatClampNeg = i := nI_clamp (by omega)
  have nj : (nI j).toNatClampNeg = j := nI_clamp (by omega)
  rw [dv_2, ni, nj]
  rcases cr_both hr hi hj with ⟨h1, h2⟩ | ⟨h1, a, b, p, q, ⟨u1, u2, u3, u4, u5, u6⟩, ⟨v1, v2, v3, v4, v5, v6⟩⟩
  · rw [two_c (by decide) h2]
    have hM : (if (z_i (M.2.1.1 i)) = (0 : Int32) then mp_is M (z_t (0 : Int32)) else (if (z_i (M.2.1.1 j)) = (0 : Int32) then mp_is M (z_t (0 : Int32)) else (if z_i (B_m_divide_5 M (nI i) (nI j)).2.2.2.1 = 0 then B_m_divide_5 M (nI i) (nI j) else mp_is (d7 (d6 (B_m_divide_5 M (nI i) (nI j)))) (z_t 1)))) = mp_is M (z_t 0) := by
      by_cases h8 : M.2.1.1 i = false
      · rw [if_pos (z_i0.mpr h8)]
      · have h9 : M.2.1.1 j = false := by
          cases g : M.2.1.1 i
          · exact absurd g h8
          · rw [g] at h1; exact h1
        rw [if_pos (z_i0.mpr h9), ite_self]
    rw [hM]
    refine ⟨be_f (by omega), ⟨rfl, rfl⟩, kps_e z_tf (by rw [be_at]; exact e10)⟩
  · have he := hm.2.1.2
    have hmm := hm.2.2.2
    have ga := elo_ge he hmm u3
    have gb := ehi_ge he hmm u4
    have gp := elo_ge he hmm v3
    have gq := ehi_ge he hmm v4
    have la := elo_g he hmm u3
    have hb := ehi_g he hmm u4
    have lp := elo_g he hmm v3
    have hq := ehi_g he hmm v4
    have hb1 : M.2.1.1 i = true := by
      cases g : M.2.1.1 i
      · rw [g] at h1; cases h1
      · rfl
    have hb2 : M.2.1.1 j = true := by
      cases g : M.2.1.1 j
      · rw [hb1, g] at h1; cases h1
      · rfl
    rw [two_cb (by decide) (by rw [u1]; exact (zl_le (gd_zr (ge_gd ga)) (gd_zr (ge_gd gb))).mpr u2) (by rw [v1]; exact (zl_le (gd_zr (ge_gd gp)) (gd_zr (ge_gd gq))).mpr v2)]
    rw [if_neg (by decide), if_neg (by decide), if_neg (by decide), if_pos rfl, hb1, hb2, if_neg (show ¬ z_i true = 0 by decide), if_neg (show ¬ z_i true = 0 by decide)]
    have m0 : mfr M (mp_is M (z_t 0)) := ⟨rfl, rfl⟩
    have e1 : B_m_divide_1 M (nI i) (nI j) = S_m_ratio (mp_is M (z_t 0)) (zL (ph a)) (zL (ph b)) (zL (ph p)) (zL (ph q)) := by
      show S_m_ratio (mp_is M (z_t 0)) (M.2.1.2.1 (nI i).toNatClampNeg) (M.2.1.2.2 (nI i).toNatClampNeg) (M.2.1.2.1 (nI j).toNatClampNeg) (M.2.1.2.2 (nI j).toNatClampNeg) = _
      rw [ni, nj, u5, u6, v5, v6]
    have r1 := rat_fr (mp_is M (z_t 0)) (zL (ph a)) (zL (ph b)) (zL (ph p)) (zL (ph q))
    rw [← e1] at r1
    have f4 := fld_4 (B_m_divide_1 M (nI i) (nI j))
    have e4 : B_m_divide_4 M (nI i) (nI j) = mp_to (mp_from (mp_is (B_m_divide_1 M (nI i) (nI j)) (z_t (z_i (B_m_divide_1 M (nI i) (nI j)).2.2.2.1))) (mp_is (B_m_divide_1 M (nI i) (nI j)) (z_t (z_i (B_m_divide_1 M (nI i) (nI j)).2.2.2.1))).2.2.2.2.1) (mp_from (mp_is (B_m_divide_1 M (nI i) (nI j)) (z_t (z_i (B_m_divide_1 M (nI i) (nI j)).2.2.2.1))) (mp_is (B_m_divide_1 M (nI i) (nI j)) (z_t (z_i (B_m_divide_1 M (nI i) (nI j)).2.2.2.1))).2.2.2.2.1).2.2.2.2.2 := by
      unfold B_m_divide_4 B_m_divide_3 B_m_divide_2
      rfl
    rw [← e4] at f4
    have m4 : mfr M (B_m_divide_4 M (nI i) (nI j)) := mfr_tr m0 (mfr_tr r1.1 f4.1)
    have e5 : B_m_divide_5 M (nI i) (nI j) = S_m_ratio (B_m_divide_4 M (nI i) (nI j)) (zL (ph (-b))) (zL (ph (-a))) (zL (ph (-q))) (zL (ph (-p))) := by
      unfold B_m_divide_5
      rw [m4.2, ni, nj, u5, u6, v5, v6, zl_neg, zl_neg, zl_neg, zl_neg, ph_neg, ph_neg, ph_neg, ph_neg]
    have r5 := rat_fr (B_m_divide_4 M (nI i) (nI j)) (zL (ph (-b))) (zL (ph (-a))) (zL (ph (-q))) (zL (ph (-p)))
    rw [← e5] at r5
    obtain ⟨k1, k8, k9⟩ := div_k hw hi hj u1 v1 la ga hb gb lp gp hq gq u2 v2 (mfr_w m0 hm) (mfr_w m4 hm)
    rw [← e1] at k8
    rw [← e5] at k9
    have hs := r5.2.trans f4.2
    have df := (d_fin (B_m_divide_5 M (nI i) (nI j))).1
    have df2 := d_fin2 hs
    have dj := djo_ok he hmm k8 k9
    refine ⟨cfr_tr k1 dj.1, mfr_tr m4 (mfr_tr r5.1 df), ?_⟩
    rw [df2]
    exact dj.2
end DIV
