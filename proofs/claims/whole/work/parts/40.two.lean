-- what is reckoned of two places
theorem span_ok {M : mw_C} {e m : Nat} (h : mwd M e m) {x y d : Int} {X Y D : Int64} (hX : X = zL (ph x)) (hY : Y = zL (ph y)) (hD : D = zL d) (hx : glo x) (hy : ghi y) (hd : 0 < d) (hd2 : d < 1125899906842624) :
    mfr M (S_m_span M X Y D) ∧ (S_m_span M X Y D).2.2.1.1 = true ∧ (S_m_span M X Y D).2.2.1.2.1 = zL (ph (nA e m (dv x d))) ∧ (S_m_span M X Y D).2.2.1.2.2 = zL (ph (nB e m (-(dv (-y) d)))) := by
  subst hX; subst hY; subst hD
  exact ⟨⟨rfl, rfl⟩, z_tt, sp_lo (M := mp_is M (z_t 1)) h hx hd hd2, sp_hi (M := B_m_span_1 M (zL (ph x)) (zL (ph y)) (zL d)) h hy hd hd2⟩
section TWO
variable {c : cw_C} {M : mw_C} {e m i j : Nat}
theorem two_cb {x : Int32} (hx : ¬ x = 4) (hi : (c.2.2 i).1 ≤ (c.2.2 i).2) (hj : (c.2.2 j).1 ≤ (c.2.2 j).2) : S_reckonTwo c x i j = (if x = (0 : Int32) then S_become c 8 (F_plus ((c.2.2 i).1) ((c.2.2 j).1)) (F_plus ((c.2.2 i).2) ((c.2.2 j).2)) else (if x = (1 : Int32) then S_become c 8 (F_plus ((c.2.2 i).1) (-((c.2.2 j).2))) (F_plus ((c.2.2 i).2) (-((c.2.2 j).1))) else (if x = (2 : Int32) then S_multiply c i j else (if x = (3 : Int32) then S_join (S_divide c i j) 8 9 else (if x = (5 : Int32) then S_meet c i j else (if x = (6 : Int32) then S_become c 8 (z_min ((c.2.2 i).1) ((c.2.2 j).1)) (z_min ((c.2.2 i).2) ((c.2.2 j).2)) else (if x = (7 : Int32) then S_become c 8 (z_max ((c.2.2 i).1) ((c.2.2 j).1)) (z_max ((c.2.2 i).2) ((c.2.2 j).2)) else S_becomeEmpty c 8))))))) := by
  unfold S_reckonTwo
  rw [if_neg hx, if_pos (ie_0.mpr hi), if_pos (ie_0.mpr hj)]
theorem two_c {x : Int32} (hx : ¬ x = 4) (h : ¬ (c.2.2 i).1 ≤ (c.2.2 i).2 ∨ ¬ (c.2.2 j).1 ≤ (c.2.2 j).2) : S_reckonTwo c x i j = S_become c 8 1 0 := by
  unfold S_reckonTwo
  rw [if_neg hx]
  by_cases h1 : (c.2.2 i).1 ≤ (c.2.2 i).2
  · rw [if_pos (ie_0.mpr h1), if_neg (fun q => h.elim (fun g => g h1) (fun g => g (ie_0.mp q)))]
    rfl
  · rw [if_neg (fun q => h1 (ie_0.mp q))]
    rfl
theorem two_is {x : Int32} (hi : i < 8) (hj : j < 8) : (B_m_two_1 M x (nI i) (nI j)).2.2.1.1 = (M.2.1.1 i && M.2.1.1 j) := by
  show z_t (if z_i (M.2.1.1 (nI i).toNatClampNeg) = 0 then 0 else if z_i (M.2.1.1 (nI j).toNatClampNeg) = 0 then 0 else 1) = _
  rw [nI_clamp (by omega), nI_clamp (by omega)]
  cases M.2.1.1 i <;> cases M.2.1.1 j <;> decide
theorem two_m {x : Int32} (hx : ¬ x = 4) (hi : i < 8) (hj : j < 8) (h : (M.2.1.1 i && M.2.1.1 j) = false) : S_m_two M x (nI i) (nI j) = B_m_two_1 M x (nI i) (nI j) := by
  unfold S_m_two
  rw [if_neg hx, if_pos (z_i0.mpr ((two_is hi hj).trans h))]
theorem two_mb {x : Int32} (hx : ¬ x = 4) (hi : i < 8) (hj : j < 8) (h : (M.2.1.1 i && M.2.1.1 j) = true) : S_m_two M x (nI i) (nI j) = (if x = (0 : Int32) then B_m_two_9 M x (nI i) (nI j) else (if x = (1 : Int32) then B_m_two_10 M x (nI i) (nI j) else (if x = (2 : Int32) then B_m_two_11 M x (nI i) (nI j) else (if x = (3 : Int32) then B_m_two_13 M x (nI i) (nI j) else (if x = (5 : Int32) then B_m_two_15 M x (nI i) (nI j) else (if x = (6 : Int32) then B_m_two_17 M x (nI i) (nI j) else B_m_two_13 M x (nI i) (nI j))))))) := by
  unfold S_m_two
  rw [if_neg hx, if_neg (fun q => by rw [two_is hi hj, h] at q; exact absurd q (by decide))]
theorem kps_e {x : Bool} {f t : Int64} {p : Int64 × Int64} (h1 : x = false) (h2 : ¬ p.1 ≤ p.2) : kps e m p x f t := Or.inl ⟨h1, h2⟩
/-- ends that need no rounding -/
theorem kps_s {x : Bool} {f t : Int64} {p : Int64 × Int64} {a b : Int} (he : e ≤ 4) (hm : m ≤ 10) (hx : x = true) (hp : p = (zL a, zL b)) (hab : a ≤ b) (ha : elo e m a) (hb : ehi e m b) (hf : f = zL (ph a)) (ht : t = zL (ph b)) : kps e m p x f t :=
  Or.inr ⟨hx, a, b, hp, hab, elo_g he hm ha, ehi_g he hm hb, by rw [nA_self he hm ha]; exact hf, by rw [nB_self he hm hb]; exact ht⟩
theorem cr_both (hr : rlp e m c M) (hi : i < 8) (hj : j < 8) :
    ((M.2.1.1 i && M.2.1.1 j) = false ∧ (¬ (c.2.2 i).1 ≤ (c.2.2 i).2 ∨ ¬ (c.2.2 j).1 ≤ (c.2.2 j).2)) ∨ ((M.2.1.1 i && M.2.1.1 j) = true ∧ ∃ a b p q : Int, (c.2.2 i = (zL a, zL b) ∧ a ≤ b ∧ elo e m a ∧ ehi e m b ∧ M.2.1.2.1 i = zL (ph a) ∧ M.2.1.2.2 i = zL (ph b)) ∧ (c.2.2 j = (zL p, zL q) ∧ p ≤ q ∧ elo e m p ∧ ehi e m q ∧ M.2.1.2.1 j = zL (ph p) ∧ M.2.1.2.2 j = zL (ph q))) := by
  rcases hr i hi with ⟨h1, h2⟩ | ⟨h1, a, b, h2⟩
  · exact Or.inl ⟨by rw [h1]; rfl, Or.inl h2⟩
  · rcases hr j hj with ⟨g1, g2⟩ | ⟨g1, p, q, g2⟩
    · exact Or.inl ⟨by rw [h1, g1]; rfl, Or.inr g2⟩
    · exact Or.inr ⟨by rw [h1, g1]; rfl, a, b, p, q, h2, g2⟩
def twok (e m : Nat) (c : cw_C) (M : mw_C) (c' : cw_C) (M' : mw_C) : Prop := cfr c c' ∧ mfr M M' ∧ kps e m (c'.2.2 8) M'.2.2.1.1 M'.2.2.1.2.1 M'.2.2.1.2.2
theorem two_e {x : Int32} (hx : ¬ x = 4) (hi : i < 8) (hj : j < 8) (h1 : (M.2.1.1 i && M.2.1.1 j) = false) (h2 : ¬ (c.2.2 i).1 ≤ (c.2.2 i).2 ∨ ¬ (c.2.2 j).1 ≤ (c.2.2 j).2) : twok e m c M (S_reckonTwo c x i j) (S_m_two M x (nI i) (nI j)) := by
  rw [two_c hx h2, two_m hx hi hj h1]
  refine ⟨be_f (by omega), ⟨rfl, rfl⟩, kps_e ?_ ?_⟩
  · rw [two_is hi hj]; exact h1
  · rw [be_at]; exact e10
theorem ifx {α : Type} {x y : Int32} {a b : α} (h : x = y) : (if x = y then a else b) = a := if_pos h
theorem pl_lo {a b : Int} (ha : glo a) (hb : glo b) (ga : ge a) (gb : ge b) : glo (pl a b) := by
  unfold pl; unfold glo at *; unfold ge at *
  split
  · omega
  · split <;> omega
theorem pl_hi {a b : Int} (ha : ghi a) (hb : ghi b) (ga : ge a) (gb : ge b) : ghi (pl a b) := by
  unfold pl; unfold ghi at *; unfold ge at *
  split
  · omega
  · split <;> omega
theorem pl_le {a b p q : Int} (h1 : a ≤ b) (h2 : p ≤ q) (ha : glo a) (hb : ghi b) (hp : glo p) (hq : ghi q) (ga : ge a) (gb : ge b) (gp : ge p) (gq : ge q) : pl a p ≤ pl b q := by
  unfold pl; unfold glo ghi ge at *
  split
  · split
    · omega
    · split <;> omega
  · split
    · split
      · omega
      · split <;> omega
    · split
      · omega
      · split <;> omega
theorem lo2 {M : mw_C} {x : Int32} (hi : i < 8) (hj : j < 8) : A_m_two_5 M x (nI i) (nI j) = M.2.1.2.1 i ∧ A_m_two_6 M x (nI i) (nI j) = M.2.1.2.2 i ∧ A_m_two_7 M x (nI i) (nI j) = M.2.1.2.1 j ∧ A_m_two_8 M x (nI i) (nI j) = M.2.1.2.2 j := by
  have h1 : (nI i).toNatClampNeg = i := nI_clamp (by omega)
  have h2 : (nI j).toNatClampNeg = j := nI_clamp (by omega)
  refine ⟨?_, ?_, ?_, ?_⟩
  · show M.2.1.2.1 (nI i).toNatClampNeg = _; rw [h1]
  · show M.2.1.2.2 (nI i).toNatClampNeg = _; rw [h1]
  · show M.2.1.2.1 (nI j).toNatClampNeg = _; rw [h2]
  · show M.2.1.2.2 (nI j).toNatClampNeg = _; rw [h2]
theorem two_0 (hw : cwd c e m) (hm : mwd M e m) (hr : rlp e m c M) (hi : i < 8) (hj : j < 8) : twok e m c M (S_reckonTwo c 0 i j) (S_m_two M 0 (nI i) (nI j)) := by
  rcases cr_both hr hi hj with ⟨h1, h2⟩ | ⟨h1, a, b, p, q, ⟨u1, u2, u3, u4, u5, u6⟩, ⟨v1, v2, v3, v4, v5, v6⟩⟩
  · exact two_e (by decide) hi hj h1 h2
  · have he := hm.2.1.2
    have hmm := hm.2.2.2
    have ga := elo_ge he hmm u3
    have gb := ehi_ge he hmm u4
    have gp := elo_ge he hmm v3
    have gq := ehi_ge he hmm v4
    have la := elo_g he hmm u3
    have hb := ehi_g he hmm u4
    have lp := elo_g he hmm v3
    have hq := ehi_g he hmm v4
    rw [two_cb (by decide) (by rw [u1]; exact (zl_le (gd_zr (ge_gd ga)) (gd_zr (ge_gd gb))).mpr u2) (by rw [v1]; exact (zl_le (gd_zr (ge_gd gp)) (gd_zr (ge_gd gq))).mpr v2), two_mb (by decide) hi hj h1, if_pos rfl, if_pos rfl, u1, v1]
    dsimp only
    rw [cs_plus (gd_zr (ge_gd ga)) (gd_zr (ge_gd gp)), cs_plus (gd_zr (ge_gd gb)) (gd_zr (ge_gd gq))]
    unfold B_m_two_9
    obtain ⟨w1, w2, w3, w4⟩ := lo2 (M := M) (x := 0) hi hj
    rw [w1, w2, w3, w4, u5, u6, v5, v6, ms_pluslo la lp (by unfold glo ge at *; omega), ms_plushi hb hq (by unfold ghi ge at *; omega)]
    have hS := span_ok (M := B_m_two_1 M 0 (nI i) (nI j)) (d := 1) hm rfl rfl rfl (pl_lo la lp ga gp) (pl_hi hb hq gb gq) (by omega) (by omega)
    rw [dv_1, dv_1, Int.neg_neg] at hS
    refine ⟨be_f (by omega), ⟨hS.1.1, hS.1.2⟩, Or.inr ⟨hS.2.1, pl a p, pl b q, be_at _ _ _ _, pl_le u2 v2 la hb lp hq ga gb gp gq, pl_lo la lp ga gp, pl_hi hb hq gb gq, hS.2.2.1, hS.2.2.2⟩⟩
theorem two_1 (hw : cwd c e m) (hm : mwd M e m) (hr : rlp e m c M) (hi : i < 8) (hj : j < 8) : twok e m c M (S_reckonTwo c 1 i j) (S_m_two M 1 (nI i) (nI j)) := by
  rcases cr_both hr hi hj with ⟨h1, h2⟩ | ⟨h1, a, b, p, q, ⟨u1, u2, u3, u4, u5, u6⟩, ⟨v1, v2, v3, v4, v5, v6⟩⟩
  · exact two_e (by decide) hi hj h1 h2
  · have he := hm.2.1.2
    have hmm := hm.2.2.2
    have ga := elo_ge he hmm u3
    have gb := ehi_ge he hmm u4
    have gp := elo_ge he hmm v3
    have gq := ehi_ge he hmm v4
    have la := elo_g he hmm u3
    have hb := ehi_g he hmm u4
    have lp := elo_g he hmm v3
    have hq := ehi_g he hmm v4
    rw [two_cb (by decide) (by rw [u1]; exact (zl_le (gd_zr (ge_gd ga)) (gd_zr (ge_gd gb))).mpr u2) (by rw [v1]; exact (zl_le (gd_zr (ge_gd gp)) (gd_zr (ge_gd gq))).mpr v2), two_mb (by decide) hi hj h1, if_neg (by decide), if_pos rfl, if_neg (by decide), if_pos rfl, u1, v1]
    dsimp only
    rw [zl_neg, zl_neg, cs_plus (gd_zr (ge_gd ga)) (gd_zr (ge_gd (ge_neg gq))), cs_plus (gd_zr (ge_gd gb)) (gd_zr (ge_gd (ge_neg gp)))]
    unfold B_m_two_10
    obtain ⟨w1, w2, w3, w4⟩ := lo2 (M := M) (x := 1) hi hj
    rw [w1, w2, w3, w4, u5, u6, v5, v6, zl_neg, zl_neg, ← ph_neg, ← ph_neg, ms_pluslo la (ghi_neg hq) (by unfold ghi glo ge at *; omega), ms_plushi hb (glo_neg lp) (by unfold glo ghi ge at *; omega)]
    have hS := span_ok (M := B_m_two_1 M 1 (nI i) (nI j)) (d := 1) hm rfl rfl rfl (pl_lo la (ghi_neg hq) ga (ge_neg gq)) (pl_hi hb (glo_neg lp) gb (ge_neg gp)) (by omega) (by omega)
    rw [dv_1, dv_1, Int.neg_neg] at hS
    refine ⟨be_f (by omega), ⟨hS.1.1, hS.1.2⟩, Or.inr ⟨hS.2.1, pl a (-q), pl b (-p), be_at _ _ _ _, pl_le u2 (by omega) la hb (ghi_neg hq) (glo_neg lp) ga gb (ge_neg gq) (ge_neg gp), pl_lo la (ghi_neg hq) ga (ge_neg gq), pl_hi hb (glo_neg lp) gb (ge_neg gp), hS.2.2.1, hS.2.2.2⟩⟩
theorem el_min {a b : Int} (ha : elo e m a) (hb : elo e m b) : elo e m (min a b) := by
  by_cases h : a ≤ b
  · rw [show min a b = a by omega]; exact ha
  · rw [show min a b = b by omega]; exact hb
theorem el_max {a b : Int} (ha : elo e m a) (hb : elo e m b) : elo e m (max a b) := by
  by_cases h : a ≤ b
  · rw [show max a b = b by omega]; exact hb
  · rw [show max a b = a by omega]; exact ha
theorem eh_min {a b : Int} (ha : ehi e m a) (hb : ehi e m b) : ehi e m (min a b) := by
  by_cases h : a ≤ b
  · rw [show min a b = a by omega]; exact ha
  · rw [show min a b = b by omega]; exact hb
theorem eh_max {a b : Int} (ha : ehi e m a) (hb : ehi e m b) : ehi e m (max a b) := by
  by_cases h : a ≤ b
  · rw [show max a b = b by omega]; exact hb
  · rw [show max a b = a by omega]; exact ha
theorem two_5 (hw : cwd c e m) (hm : mwd M e m) (hr : rlp e m c M) (hi : i < 8) (hj : j < 8) : twok e m c M (S_reckonTwo c 5 i j) (S_m_two M 5 (nI i) (nI j)) := by
  rcases cr_both hr hi hj with ⟨h1, h2⟩ | ⟨h1, a, b, p, q, ⟨u1, u2, u3, u4, u5, u6⟩, ⟨v1, v2, v3, v4, v5, v6⟩⟩
  · exact two_e (by decide) hi hj h1 h2
  · have he := hm.2.1.2
    have hmm := hm.2.2.2
    have ga := ge_gd (elo_ge he hmm u3)
    have gb := ge_gd (ehi_ge he hmm u4)
    have gp := ge_gd (elo_ge he hmm v3)
    have gq := ge_gd (ehi_ge he hmm v4)
    have g1 := gd_max ga gp
    have g2 := gd_min gb gq
    rw [two_cb (by decide) (by rw [u1]; exact (zl_le (gd_zr ga) (gd_zr gb)).mpr u2) (by rw [v1]; exact (zl_le (gd_zr gp) (gd_zr gq)).mpr v2), two_mb (by decide) hi hj h1]
    rw [if_neg (by decide), if_neg (by decide), if_neg (by decide), if_neg (by decide), if_pos rfl, if_neg (by decide), if_neg (by decide), if_neg (by decide), if_neg (by decide), if_pos rfl]
    unfold S_meet
    rw [u1, v1]
    dsimp only
    rw [zmax (gd_zr ga) (gd_zr gp), zmin (gd_zr gb) (gd_zr gq)]
    obtain ⟨w1, w2, w3, w4⟩ := lo2 (M := M) (x := 5) hi hj
    have hf : (B_m_two_15 M 5 (nI i) (nI j)).2.2.1.2.1 = zL (ph (max a p)) := by
      show F_m_more (A_m_two_5 M 5 (nI i) (nI j)) (A_m_two_7 M 5 (nI i) (nI j)) = _
      rw [w1, w3, u5, v5, mmore ga gp]
    have ht : (B_m_two_15 M 5 (nI i) (nI j)).2.2.1.2.2 = zL (ph (min b q)) := by
      show F_m_less (A_m_two_6 M 5 (nI i) (nI j)) (A_m_two_8 M 5 (nI i) (nI j)) = _
      rw [w2, w4, u6, v6, mless gb gq]
    have hs : (B_m_two_15 M 5 (nI i) (nI j)).2.2.1.1 = z_t (if (B_m_two_15 M 5 (nI i) (nI j)).2.2.1.2.2 < (B_m_two_15 M 5 (nI i) (nI j)).2.2.1.2.1 then (0 : Int32) else 1) := rfl
    rw [hf, ht] at hs
    by_cases h9 : max a p ≤ min b q
    · rw [if_pos ((zl_le (gd_zr g1) (gd_zr g2)).mpr h9)]
      rw [if_neg (fun q9 => absurd ((ph_lt g2 g1).mp ((zl_lt (ph_zr g2) (ph_zr g1)).mp q9)) (by omega))] at hs
      exact ⟨be_f (by omega), ⟨rfl, rfl⟩, kps_s he hmm (hs.trans z_tt) (be_at _ _ _ _) h9 (el_max u3 v3) (eh_min u4 v4) hf ht⟩
    · rw [if_neg (fun q9 => h9 ((zl_le (gd_zr g1) (gd_zr g2)).mp q9)), be_e]
      rw [if_pos ((zl_lt (ph_zr g2) (ph_zr g1)).mpr ((ph_lt g2 g1).mpr (by omega)))] at hs
      exact ⟨be_f (by omega), ⟨rfl, rfl⟩, kps_e (hs.trans z_tf) (by rw [be_at]; exact e10)⟩
theorem two_6 (hw : cwd c e m) (hm : mwd M e m) (hr : rlp e m c M) (hi : i < 8) (hj : j < 8) : twok e m c M (S_reckonTwo c 6 i j) (S_m_two M 6 (nI i) (nI j)) := by
  rcases cr_both hr hi hj with ⟨h1, h2⟩ | ⟨h1, a, b, p, q, ⟨u1, u2, u3, u4, u5, u6⟩, ⟨v1, v2, v3, v4, v5, v6⟩⟩
  · exact two_e (by decide) hi hj h1 h2
  · have he := hm.2.1.2
    have hmm := hm.2.2.2
    have ga := ge_gd (elo_ge he hmm u3)
    have gb := ge_gd (ehi_ge he hmm u4)
    have gp := ge_gd (elo_ge he hmm v3)
    have gq := ge_gd (ehi_ge he hmm v4)
    rw [two_cb (by decide) (by rw [u1]; exact (zl_le (gd_zr ga) (gd_zr gb)).mpr u2) (by rw [v1]; exact (zl_le (gd_zr gp) (gd_zr gq)).mpr v2), two_mb (by decide) hi hj h1]
    rw [if_neg (by decide), if_neg (by decide), if_neg (by decide), if_neg (by decide), if_neg (by decide), if_pos rfl, if_neg (by decide), if_neg (by decide), if_neg (by decide), if_neg (by decide), if_neg (by decide), if_pos rfl, u1, v1]
    dsimp only
    rw [zmin (gd_zr ga) (gd_zr gp), zmin (gd_zr gb) (gd_zr gq)]
    obtain ⟨w1, w2, w3, w4⟩ := lo2 (M := M) (x := 6) hi hj
    have hf : (B_m_two_17 M 6 (nI i) (nI j)).2.2.1.2.1 = zL (ph (min a p)) := by
      show F_m_less (A_m_two_5 M 6 (nI i) (nI j)) (A_m_two_7 M 6 (nI i) (nI j)) = _
      rw [w1, w3, u5, v5, mless ga gp]
    have ht : (B_m_two_17 M 6 (nI i) (nI j)).2.2.1.2.2 = zL (ph (min b q)) := by
      show F_m_less (A_m_two_6 M 6 (nI i) (nI j)) (A_m_two_8 M 6 (nI i) (nI j)) = _
      rw [w2, w4, u6, v6, mless gb gq]
    exact ⟨be_f (by omega), ⟨rfl, rfl⟩, kps_s he hmm ((two_is (x := 6) hi hj).trans h1) (be_at _ _ _ _) (by omega) (el_min u3 v3) (eh_min u4 v4) hf ht⟩
theorem two_7 (hw : cwd c e m) (hm : mwd M e m) (hr : rlp e m c M) (hi : i < 8) (hj : j < 8) : twok e m c M (S_reckonTwo c 7 i j) (S_m_two M 7 (nI i) (nI j)) := by
  rcases cr_both hr hi hj with ⟨h1, h2⟩ | ⟨h1, a, b, p, q, ⟨u1, u2, u3, u4, u5, u6⟩, ⟨v1, v2, v3, v4, v5, v6⟩⟩
  · exact two_e (by decide) hi hj h1 h2
  · have he := hm.2.1.2
    have hmm := hm.2.2.2
    have ga := ge_gd (elo_ge he hmm u3)
    have gb := ge_gd (ehi_ge he hmm u4)
    have gp := ge_gd (elo_ge he hmm v3)
    have gq := ge_gd (ehi_ge he hmm v4)
    rw [two_cb (by decide) (by rw [u1]; exact (zl_le (gd_zr ga) (gd_zr gb)).mpr u2) (by rw [v1]; exact (zl_le (gd_zr gp) (gd_zr gq)).mpr v2), two_mb (by decide) hi hj h1]
    rw [if_neg (by decide), if_neg (by decide), if_neg (by decide), if_neg (by decide), if_neg (by decide), if_neg (by decide), if_pos rfl, if_neg (by decide), if_neg (by decide), if_neg (by decide), if_neg (by decide), if_neg (by decide), if_neg (by decide), u1, v1]
    dsimp only
    rw [zmax (gd_zr ga) (gd_zr gp), zmax (gd_zr gb) (gd_zr gq)]
    obtain ⟨w1, w2, w3, w4⟩ := lo2 (M := M) (x := 7) hi hj
    have hf : (B_m_two_13 M 7 (nI i) (nI j)).2.2.1.2.1 = zL (ph (max a p)) := by
      show F_m_more (A_m_two_5 M 7 (nI i) (nI j)) (A_m_two_7 M 7 (nI i) (nI j)) = _
      rw [w1, w3, u5, v5, mmore ga gp]
    have ht : (B_m_two_13 M 7 (nI i) (nI j)).2.2.1.2.2 = zL (ph (max b q)) := by
      show F_m_more (A_m_two_6 M 7 (nI i) (nI j)) (A_m_two_8 M 7 (nI i) (nI j)) = _
      rw [w2, w4, u6, v6, mmore gb gq]
    exact ⟨be_f (by omega), ⟨rfl, rfl⟩, kps_s he hmm ((two_is (x := 7) hi hj).trans h1) (be_at _ _ _ _) (by omega) (el_max u3 v3) (eh_max u4 v4) hf ht⟩
theorem two_4 (hw : cwd c e m) (hm : mwd M e m) (hr : rlp e m c M) (hi : i < 8) (hj : j < 8) : twok e m c M (S_reckonTwo c 4 i j) (S_m_two M 4 (nI i) (nI j)) := by
  have he := hm.2.1.2
  have hmm := hm.2.2.2
  have ci : (nI i).toNatClampNeg = i := nI_clamp (by omega)
  have cj : (nI j).toNatClampNeg = j := nI_clamp (by omega)
  have hS : S_reckonTwo c 4 i j = S_join c i j := by unfold S_reckonTwo; rw [if_pos rfl]
  rw [hS]
  unfold S_join
  have s1 : (B_m_two_1 M 4 (nI i) (nI j)).2.1.1 (nI i).toNatClampNeg = M.2.1.1 i := by show M.2.1.1 (nI i).toNatClampNeg = _; rw [ci]
  have s4i : (B_m_two_4 M 4 (nI i) (nI j)).2.1.1 (nI i).toNatClampNeg = M.2.1.1 i := by show M.2.1.1 (nI i).toNatClampNeg = _; rw [ci]
  have s4j : (B_m_two_4 M 4 (nI i) (nI j)).2.1.1 (nI j).toNatClampNeg = M.2.1.1 j := by show M.2.1.1 (nI j).toNatClampNeg = _; rw [cj]
  have s1j : (B_m_two_1 M 4 (nI i) (nI j)).2.1.1 (nI j).toNatClampNeg = M.2.1.1 j := by show M.2.1.1 (nI j).toNatClampNeg = _; rw [cj]
  have hM : (M.2.1.1 i && M.2.1.1 j) = false → S_m_two M 4 (nI i) (nI j) = B_m_two_4 M 4 (nI i) (nI j) := by
    intro h
    unfold S_m_two
    rw [if_pos rfl, if_pos (z_i0.mpr ((two_is hi hj).trans h)), s4i, s4j]
    cases h8 : M.2.1.1 i
    · rw [if_pos (show z_i false = 0 by decide)]
      exact ite_self _
    · cases h9 : M.2.1.1 j
      · rw [if_pos (show z_i false = 0 by decide)]
        simp only [ite_self]
      · rw [h8, h9] at h; cases h
  rcases hr i hi with ⟨h1, h2⟩ | ⟨h1, a, b, h2, h3, h4, h5, h6, h7⟩
  · rw [if_neg (fun q => h2 (ie_0.mp q)), hM (by rw [h1]; rfl)]
    have hw9 : (if z_i ((B_m_two_1 M 4 (nI i) (nI j)).2.1.1 (nI i).toNatClampNeg) = 0 then nI j else nI i) = nI j := by rw [s1, h1]; exact if_pos (by decide)
    have t1 : (B_m_two_4 M 4 (nI i) (nI j)).2.2.1.1 = M.2.1.1 j := by
      show z_t (z_i (M.2.1.1 (if z_i ((B_m_two_1 M 4 (nI i) (nI j)).2.1.1 (nI i).toNatClampNeg) = 0 then nI j else nI i).toNatClampNeg)) = _
      rw [hw9, cj, z_ti]
    have t2 : (B_m_two_4 M 4 (nI i) (nI j)).2.2.1.2.1 = M.2.1.2.1 j := by
      show M.2.1.2.1 (if z_i ((B_m_two_1 M 4 (nI i) (nI j)).2.1.1 (nI i).toNatClampNeg) = 0 then nI j else nI i).toNatClampNeg = _
      rw [hw9, cj]
    have t3 : (B_m_two_4 M 4 (nI i) (nI j)).2.2.1.2.2 = M.2.1.2.2 j := by
      show M.2.1.2.2 (if z_i ((B_m_two_1 M 4 (nI i) (nI j)).2.1.1 (nI i).toNatClampNeg) = 0 then nI j else nI i).toNatClampNeg = _
      rw [hw9, cj]
    refine ⟨be_f (by omega), ⟨rfl, rfl⟩, ?_⟩
    rw [be_at, t1, t2, t3]
    rcases hr j hj with ⟨g1, g2⟩ | ⟨g1, p, q, g2, g3, g4, g5, g6, g7⟩
    · exact kps_e g1 g2
    · exact kps_s he hmm g1 g2 g3 g4 g5 g6 g7
  · have ga := ge_gd (elo_ge he hmm h4)
    have gb := ge_gd (ehi_ge he hmm h5)
    rw [if_pos (ie_0.mpr (by rw [h2]; exact (zl_le (gd_zr ga) (gd_zr gb)).mpr h3))]
    rcases hr j hj with ⟨g1, g2⟩ | ⟨g1, p, q, g2, g3, g4, g5, g6, g7⟩
    · rw [if_neg (fun q => g2 (ie_0.mp q)), hM (by rw [h1, g1]; rfl)]
      have hw9 : (if z_i ((B_m_two_1 M 4 (nI i) (nI j)).2.1.1 (nI i).toNatClampNeg) = 0 then nI j else nI i) = nI i := by rw [s1, h1]; exact if_neg (by decide)
      have t1 : (B_m_two_4 M 4 (nI i) (nI j)).2.2.1.1 = M.2.1.1 i := by
        show z_t (z_i (M.2.1.1 (if z_i ((B_m_two_1 M 4 (nI i) (nI j)).2.1.1 (nI i).toNatClampNeg) = 0 then nI j else nI i).toNatClampNeg)) = _
        rw [hw9, ci, z_ti]
      have t2 : (B_m_two_4 M 4 (nI i) (nI j)).2.2.1.2.1 = M.2.1.2.1 i := by
        show M.2.1.2.1 (if z_i ((B_m_two_1 M 4 (nI i) (nI j)).2.1.1 (nI i).toNatClampNeg) = 0 then nI j else nI i).toNatClampNeg = _
        rw [hw9, ci]
      have t3 : (B_m_two_4 M 4 (nI i) (nI j)).2.2.1.2.2 = M.2.1.2.2 i := by
        show M.2.1.2.2 (if z_i ((B_m_two_1 M 4 (nI i) (nI j)).2.1.1 (nI i).toNatClampNeg) = 0 then nI j else nI i).toNatClampNeg = _
        rw [hw9, ci]
      refine ⟨be_f (by omega), ⟨rfl, rfl⟩, ?_⟩
      rw [be_at, t1, t2, t3]
      exact kps_s he hmm h1 h2 h3 h4 h5 h6 h7
    · have gp := ge_gd (elo_ge he hmm g4)
      have gq := ge_gd (ehi_ge he hmm g5)
      rw [if_pos (ie_0.mpr (by rw [g2]; exact (zl_le (gd_zr gp) (gd_zr gq)).mpr g3)), h2, g2]
      dsimp only
      rw [zmin (gd_zr ga) (gd_zr gp), zmax (gd_zr gb) (gd_zr gq)]
      have hb : (M.2.1.1 i && M.2.1.1 j) = true := by rw [h1, g1]; rfl
      have hMb : S_m_two M 4 (nI i) (nI j) = B_m_two_18 M 4 (nI i) (nI j) := by
        unfold S_m_two
        rw [if_pos rfl, if_neg (fun q9 => by rw [two_is hi hj, hb] at q9; exact absurd q9 (by decide)), s1, s1j, h1, g1, if_neg (show ¬ z_i true = 0 by decide), if_neg (show ¬ z_i true = 0 by decide), if_neg (by decide), if_neg (by decide), if_neg (by decide), if_neg (by decide)]
      rw [hMb]
      obtain ⟨w1, w2, w3, w4⟩ := lo2 (M := M) (x := 4) hi hj
      have hf : (B_m_two_18 M 4 (nI i) (nI j)).2.2.1.2.1 = zL (ph (min a p)) := by
        show F_m_less (A_m_two_5 M 4 (nI i) (nI j)) (A_m_two_7 M 4 (nI i) (nI j)) = _
        rw [w1, w3, h6, g6, mless ga gp]
      have ht : (B_m_two_18 M 4 (nI i) (nI j)).2.2.1.2.2 = zL (ph (max b q)) := by
        show F_m_more (A_m_two_6 M 4 (nI i) (nI j)) (A_m_two_8 M 4 (nI i) (nI j)) = _
        rw [w2, w4, h7, g7, mmore gb gq]
      exact ⟨be_f (by omega), ⟨rfl, rfl⟩, kps_s he hmm ((two_is (x := 4) hi hj).trans hb) (be_at _ _ _ _) (by omega) (el_min h4 g4) (eh_max h5 g5) hf ht⟩
end TWO
