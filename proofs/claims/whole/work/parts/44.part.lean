-- both parts of a quotient, and what is set and asked
section PRT
variable {c c' : cw_C} {M M' : mw_C} {e m i j : Nat}
theorem p9_at (M : mw_C) (x y z : Int32) : mfr (B_m_part_6 M x y z) (B_m_part_9 M x y z) ∧ (B_m_part_9 M x y z).2.2.1 = ((if I_m_part_1 M x y z = (0 : Int32) then false else (B_m_part_6 M x y z).2.2.2.1), (B_m_part_6 M x y z).2.2.2.2.1, (B_m_part_6 M x y z).2.2.2.2.2) := by
  unfold B_m_part_9 B_m_part_8 B_m_part_7
  exact prt_k _
theorem p13_at (M : mw_C) (x y z : Int32) : mfr (B_m_part_10 M x y z) (B_m_part_13 M x y z) ∧ (B_m_part_13 M x y z).2.2.1 = ((if I_m_part_1 M x y z = (0 : Int32) then false else (B_m_part_10 M x y z).2.2.2.1), (B_m_part_10 M x y z).2.2.2.2.1, (B_m_part_10 M x y z).2.2.2.2.2) := by
  unfold B_m_part_13 B_m_part_12 B_m_part_11
  exact prt_k _
theorem i1_ok {x : Int32} (hi : i < 8) (hj : j < 8) : I_m_part_1 M x (nI i) (nI j) = 0 ↔ (M.2.1.1 i && M.2.1.1 j) = false := by
  show (if z_i (M.2.1.1 (nI i).toNatClampNeg) = 0 then (0 : Int32) else if z_i (M.2.1.1 (nI j).toNatClampNeg) = 0 then (0 : Int32) else 1) = 0 ↔ _
  rw [nI_clamp (by omega), nI_clamp (by omega)]
  cases M.2.1.1 i <;> cases M.2.1.1 j <;> decide
theorem ap_at {x : Int32} (hi : i < 8) (hj : j < 8) : A_m_part_2 M x (nI i) (nI j) = M.2.1.2.1 i ∧ A_m_part_3 M x (nI i) (nI j) = M.2.1.2.2 i ∧ A_m_part_4 M x (nI i) (nI j) = M.2.1.2.1 j ∧ A_m_part_5 M x (nI i) (nI j) = M.2.1.2.2 j := by
  have h1 : (nI i).toNatClampNeg = i := nI_clamp (by omega)
  have h2 : (nI j).toNatClampNeg = j := nI_clamp (by omega)
  refine ⟨?_, ?_, ?_, ?_⟩
  · show M.2.1.2.1 (nI i).toNatClampNeg = _; rw [h1]
  · show M.2.1.2.2 (nI i).toNatClampNeg = _; rw [h1]
  · show M.2.1.2.1 (nI j).toNatClampNeg = _; rw [h2]
  · show M.2.1.2.2 (nI j).toNatClampNeg = _; rw [h2]
theorem p9_fr (M : mw_C) (x y z : Int32) : mfr (mp_thrown M 0) (B_m_part_9 M x y z) := mfr_tr (rat_fr (mp_thrown M 0) (A_m_part_2 M x y z) (A_m_part_3 M x y z) (A_m_part_4 M x y z) (A_m_part_5 M x y z)).1 (p9_at M x y z).1
theorem p13_fr (M : mw_C) (x y z : Int32) : mfr (S_m_keep (B_m_part_9 M x y z) x) (B_m_part_13 M x y z) := mfr_tr (rat_fr (S_m_keep (B_m_part_9 M x y z) x) (-(A_m_part_3 M x y z)) (-(A_m_part_2 M x y z)) (-(A_m_part_5 M x y z)) (-(A_m_part_4 M x y z))).1 (p13_at M x y z).1
theorem prt_two (hw : cwd c e m) (hm : mwd M e m) (hr : rlp e m c M) (hi : i < 8) (hj : j < 8) {x : Int32} (hK : mwd (S_m_keep (B_m_part_9 M x (nI i) (nI j)) x) e m) :
    cfr c (S_divide c i j) ∧ kps e m ((S_divide c i j).2.2 8) (B_m_part_9 M x (nI i) (nI j)).2.2.1.1 (B_m_part_9 M x (nI i) (nI j)).2.2.1.2.1 (B_m_part_9 M x (nI i) (nI j)).2.2.1.2.2 ∧ kps e m ((S_divide c i j).2.2 9) (B_m_part_13 M x (nI i) (nI j)).2.2.1.1 (B_m_part_13 M x (nI i) (nI j)).2.2.1.2.1 (B_m_part_13 M x (nI i) (nI j)).2.2.1.2.2 := by
  rw [(p9_at M x (nI i) (nI j)).2, (p13_at M x (nI i) (nI j)).2]
  dsimp only
  rcases cr_both hr hi hj with ⟨h1, h2⟩ | ⟨h1, a, b, p, q, ⟨u1, u2, u3, u4, u5, u6⟩, ⟨v1, v2, v3, v4, v5, v6⟩⟩
  · have hI := (i1_ok (M := M) (x := x) hi hj).mpr h1
    rw [if_pos hI, if_pos hI, div_e h2]
    refine ⟨cfr_tr (be_f (by omega)) (be_f (by omega)), kps_e rfl ?_, kps_e rfl ?_⟩
    · rw [be_ne _ _ _ (by omega), be_at]; exact e10
    · rw [be_at]; exact e10
  · have hI : ¬ I_m_part_1 M x (nI i) (nI j) = 0 := fun q => by
      have h9 := (i1_ok (M := M) (x := x) hi hj).mp q
      rw [h1] at h9; cases h9
    rw [if_neg hI, if_neg hI]
    have he := hm.2.1.2
    have hmm := hm.2.2.2
    have ga := elo_ge he hmm u3
    have gb := ehi_ge he hmm u4
    have gp := elo_ge he hmm v3
    have gq := ehi_ge he hmm v4
    have la := elo_g he hmm u3
    have hb := ehi_g he hmm u4
    have lp := elo_g he hmm v3
    have hq := ehi_g he hmm v4
    obtain ⟨w1, w2, w3, w4⟩ := ap_at (M := M) (x := x) hi hj
    have e6 : B_m_part_6 M x (nI i) (nI j) = S_m_ratio (mp_thrown M 0) (zL (ph a)) (zL (ph b)) (zL (ph p)) (zL (ph q)) := by
      unfold B_m_part_6
      rw [w1, w2, w3, w4, u5, u6, v5, v6]
    have e10' : B_m_part_10 M x (nI i) (nI j) = S_m_ratio (S_m_keep (B_m_part_9 M x (nI i) (nI j)) x) (zL (ph (-b))) (zL (ph (-a))) (zL (ph (-q))) (zL (ph (-p))) := by
      unfold B_m_part_10
      rw [w1, w2, w3, w4, u5, u6, v5, v6, zl_neg, zl_neg, zl_neg, zl_neg, ph_neg, ph_neg, ph_neg, ph_neg]
    rw [e6, e10']
    exact div_k hw hi hj u1 v1 la ga hb gb lp gp hq gq u2 v2 (th_mwd hm) hK
theorem keep_w (h : mwd M' e m) (x : Int32) : mwd (S_m_keep M' x) e m := by
  unfold S_m_keep
  rw [sk_m]
  exact h
theorem ip_8 : F_isPlace (nI 7 + 1) = 0 ∧ F_m_isPlace (nI 7 + 1) = 0 := by decide +kernel
theorem ok_part (h : rel c M) (x y z : Int32) : lw_ag (F_part c x y z) (S_m_part M x y z).1.1 (F_m_part M x y z) ∧ rel (lw_c (F_part c x y z) c (S_part c x y z)) (S_m_part M x y z) := by
  unfold F_part S_part S_m_part F_m_part
  rcases ip_c x with ⟨g1, g2⟩ | ⟨g1, g2, k, hk, rfl⟩
  · rw [if_pos g1, if_pos g1, if_pos g2, if_pos g2]; exact ag_n h
  rw [g1, g2, if_neg n1_0, if_neg n1_0, if_neg n1_0, if_neg n1_0]
  by_cases h7 : k = 7
  · subst h7
    rw [if_pos ip_8.1, if_pos ip_8.1, if_pos ip_8.2, if_pos ip_8.2]; exact ag_n h
  have hk1 : k + 1 < 8 := by omega
  rw [lw_ik1, (ip_1 hk1).1, (ip_1 hk1).2, if_neg n1_0, if_neg n1_0, if_neg n1_0, if_neg n1_0]
  rcases ip_c y with ⟨g1, g2⟩ | ⟨g1, g2, i, hi, rfl⟩
  · rw [if_pos g1, if_pos g1, if_pos g2, if_pos g2]; exact ag_n h
  rw [g1, g2, if_neg n1_0, if_neg n1_0, if_neg n1_0, if_neg n1_0]
  rcases ip_c z with ⟨g1, g2⟩ | ⟨g1, g2, j, hj, rfl⟩
  · rw [if_pos g1, if_pos g1, if_pos g2, if_pos g2]; exact ag_n h
  rw [g1, g2, if_neg n1_0, if_neg n1_0, if_neg n1_0, if_neg n1_0]
  rw [show (nI i).toNatClampNeg = i from nI_clamp (by omega), show (nI j).toNatClampNeg = j from nI_clamp (by omega), show (nI k).toNatClampNeg = k from nI_clamp (by omega), show (nI (k + 1)).toNatClampNeg = k + 1 from nI_clamp (by omega)]
  obtain ⟨e, m, w1, w2, w3⟩ := h
  have f9 := p9_fr M (nI k) (nI i) (nI j)
  have m9 : mwd (S_m_keep (B_m_part_9 M (nI k) (nI i) (nI j)) (nI k)) e m := keep_w (mfr_w f9 (th_mwd (v := 0) w2)) _
  obtain ⟨t1, t2, t3⟩ := prt_two w1 w2 w3 hi hj m9
  obtain ⟨a1, a2, a3, a4, a5, a6⟩ := keep_ok w1 (th_mwd (v := 0) w2) (th_rlp (v := 0) w3) t1 f9 (by omega) t2 hk
  have t3' := t3
  rw [← a6 9 (by omega)] at t3'
  obtain ⟨b1, b2, b3, b4, b5, b6⟩ := keep_ok a2 a3 a4 (cfr_rf _) (p13_fr M (nI k) (nI i) (nI j)) (by omega) t3' hk1
  exact ag_s (by rw [a1, b1]) b5 ⟨e, m, b2, b3, b4⟩
theorem va_up1 {α : Type} (f : Nat → α) (k : Nat) (v : α) : va_up f k v k = v := by simp [va_up]
theorem va_up2 {α : Type} (f : Nat → α) {k j : Nat} (v : α) (h : j ≠ k) : va_up f k v j = f j := by simp [va_up, h]
-- the format
theorem fm_loop (x y : Int32) : ∀ (t k : Nat) (c : cw_C) (M : mw_C), k ≤ 8 → 8 < k + t →
    LF_format x y t c (nI k) = 1 ∧ LF_m_format x y t M (nI k) = 1 ∧ ((LS_format x y t c (nI k)).1 = c.1 ∧ (LS_format x y t c (nI k)).2.1 = c.2.1 ∧ (LS_m_format x y t M (nI k)).1 = M.1) ∧
    ∀ j, j < 8 → (k ≤ j ∨ (¬ (c.2.2 j).1 ≤ (c.2.2 j).2 ∧ M.2.1.1 j = false)) → ¬ ((LS_format x y t c (nI k)).2.2 j).1 ≤ ((LS_format x y t c (nI k)).2.2 j).2 ∧ (LS_m_format x y t M (nI k)).2.1.1 j = false := by
  intro t
  induction t with
  | zero => intro k c M h1 h2; omega
  | succ t ih =>
    intro k c M h1 h2
    rw [LF_format, LF_m_format, LS_format, LS_m_format]
    by_cases hk : k = 8
    · have hc : (8 : Int32) ≤ nI k := by rw [hk]; decide
      rw [if_pos hc, if_pos hc, if_pos hc, if_pos hc]
      exact ⟨rfl, rfl, ⟨rfl, rfl, rfl⟩, fun j hj h => h.resolve_left (by omega)⟩
    · have hc : ¬ (8 : Int32) ≤ nI k := fun q => absurd ((nI_leI (a := 8) (by omega) (by omega)).mp q) (by omega)
      rw [if_neg hc, if_neg hc, if_neg hc, if_neg hc, lw_ik1, show (nI k).toNatClampNeg = k from nI_clamp (by omega), be_e]
      obtain ⟨a1, a2, ⟨b1, b2, b3⟩, a4⟩ := ih (k + 1) (S_become c k 1 0) (mp_some M (va_up M.2.1.1 k (z_t 0))) (by omega) (by omega)
      refine ⟨a1, a2, ⟨b1, b2, b3⟩, fun j hj h => a4 j hj ?_⟩
      by_cases hjk : j = k
      · right
        subst hjk
        exact ⟨by rw [be_at]; exact e10, by show va_up M.2.1.1 j (z_t 0) j = false; rw [va_up1]; exact z_tf⟩
      · rcases h with h | ⟨h3, h4⟩
        · left; omega
        · right
          exact ⟨by rw [be_ne _ _ _ hjk]; exact h3, by show va_up M.2.1.1 k (z_t 0) j = false; rw [va_up2 _ _ hjk]; exact h4⟩
theorem ok_format (h : rel c M) (x y : Int32) : F_format c x y = F_m_format M x y ∧ rel (S_format c x y) (S_m_format M x y) := by
  unfold F_format F_m_format S_format S_m_format
  by_cases h1 : x < 2
  · rw [if_pos h1, if_pos h1, if_pos h1, if_pos h1]; exact ⟨rfl, th_rel h⟩
  rw [if_neg h1, if_neg h1, if_neg h1, if_neg h1]
  by_cases h2 : (4 : Int32) < x
  · rw [if_pos h2, if_pos h2, if_pos h2, if_pos h2]; exact ⟨rfl, th_rel h⟩
  rw [if_neg h2, if_neg h2, if_neg h2, if_neg h2]
  by_cases h3 : y < 1
  · rw [if_pos h3, if_pos h3, if_pos h3, if_pos h3]; exact ⟨rfl, th_rel h⟩
  rw [if_neg h3, if_neg h3, if_neg h3, if_neg h3]
  by_cases h4 : y ≤ 10
  · rw [if_pos h4, if_pos h4, if_pos h4, if_pos h4]
    rcases pk_ix x (n := 5) (by decide) with q | q | ⟨e, he, rfl⟩
    · exact absurd (Int32.lt_trans q (by decide)) h1
    · exact absurd (Int32.lt_of_lt_of_le (show (4 : Int32) < 5 by decide) q) h2
    rcases pk_ix y (n := 11) (by decide) with q | q | ⟨m, hm, rfl⟩
    · exact absurd (Int32.lt_trans q (by decide)) h3
    · exact absurd (Int32.le_trans (show (11 : Int32) ≤ y from q) h4) (by decide)
    have e2 : 2 ≤ e := Nat.le_of_not_lt (fun q => h1 ((nI_ltI (b := 2) (by omega) (by omega)).mpr q))
    have m1 : 1 ≤ m := Nat.le_of_not_lt (fun q => h3 ((nI_ltI (b := 1) (by omega) (by omega)).mpr q))
    obtain ⟨a1, a2, ⟨b1, b2, b3⟩, a4⟩ := fm_loop (nI e) (nI m) 9 0 (cw_e1 (cw_e0 c (nI e)) (nI m)) (B_m_format_1 M (nI e) (nI m)) (by omega) (by omega)
    rw [show (0 : Int32) = nI 0 from rfl] 
    refine ⟨a1.trans a2.symm, e, m, ⟨⟨b1, b2⟩, by omega, by omega⟩, ⟨⟨by rw [b3]; rfl, by rw [b3]; rfl⟩, by omega, by omega⟩, fun k hk => ?_⟩
    obtain ⟨d1, d2⟩ := a4 k hk (Or.inl (Nat.zero_le _))
    exact Or.inl ⟨d2, d1⟩
  · rw [if_neg h4, if_neg h4, if_neg h4, if_neg h4]; exact ⟨rfl, th_rel h⟩
theorem ok_clear (h : rel c M) (x : Int32) : F_clear c x = F_m_clear M x ∧ rel (S_clear c x) (S_m_clear M x) := by
  unfold F_clear F_m_clear S_clear S_m_clear
  rcases ip_c x with ⟨g1, g2⟩ | ⟨g1, g2, k, hk, rfl⟩
  · rw [if_pos g1, if_pos g1, if_pos g2, if_pos g2]; exact ⟨rfl, th_rel h⟩
  rw [g1, g2, if_neg n1_0, if_neg n1_0, if_neg n1_0, be_e]
  obtain ⟨e, m, w1, w2, w3⟩ := h
  have ck : (nI k).toNatClampNeg = k := nI_clamp (by omega)
  refine ⟨rfl, e, m, be_w w1, w2, fun j hj => ?_⟩
  show spl e m ((S_become c (nI k).toNatClampNeg 1 0).2.2 j) (va_up M.2.1.1 (nI k).toNatClampNeg (z_t 0) j) (M.2.1.2.1 j) (M.2.1.2.2 j)
  rw [ck]
  by_cases hjk : j = k
  · subst hjk
    rw [be_at, va_up1]
    exact Or.inl ⟨z_tf, e10⟩
  · rw [be_ne _ _ _ hjk, va_up2 _ _ hjk]
    exact w3 j hj
theorem nm_gd (he : 2 ≤ e ∧ e ≤ 4) (hm : 1 ≤ m ∧ m ≤ 10) {u : Nat} (h2 : u % 2 ^ (e + m) ≤ (2 ^ e - 1) * 2 ^ m) : gd (nmo e m u) := by
  rcases nmo_end he h2 with h | h | h
  · exact Or.inl h
  · exact Or.inr (Or.inl h)
  · have := fin_b he.2 hm.2 h
    unfold gd; omega
theorem ok_set (h : rel c M) (x y z : Int32) : F_set c x y z = F_m_set M x y z ∧ rel (S_set c x y z) (S_m_set M x y z) := by
  unfold F_set F_m_set S_set S_m_set
  rcases ip_c x with ⟨g1, g2⟩ | ⟨g1, g2, k, hk, rfl⟩
  · rw [if_pos g1, if_pos g1, if_pos g2, if_pos g2]; exact ⟨rfl, th_rel h⟩
  rw [g1, g2, if_neg n1_0, if_neg n1_0, if_neg n1_0, if_neg n1_0]
  have h' := h
  obtain ⟨e, m, w1, w2, w3⟩ := h'
  rcases cs_isPat w1 y with ⟨p1, p2⟩ | ⟨p1, p2⟩
  · rcases ms_isPat (th_mwd (v := 0) w2) y with ⟨_, p3⟩ | ⟨p3, _⟩
    · rw [p2, p3, if_neg n1_0, if_neg n1_0, if_neg n1_0, if_neg n1_0]
      rcases cs_isPat w1 z with ⟨q1, q2⟩ | ⟨q1, q2⟩
      · rcases ms_isPat (th_mwd (v := 0) w2) z with ⟨_, q3⟩ | ⟨q3, _⟩
        · rw [q2, q3, if_neg n1_0, if_neg n1_0, if_neg n1_0, if_neg n1_0]
          obtain ⟨u, rfl, u1, u2⟩ := p1
          obtain ⟨w, rfl, v1, v2⟩ := q1
          have gA := nm_gd w1.2.1 w1.2.2 u2
          have gB := nm_gd w1.2.1 w1.2.2 v2
          have eA := nmo_end w1.2.1 u2
          have eB := nmo_end w1.2.1 v2
          have hB3 : B_m_set_3 M (nI k) (nI u) (nI w) = mp_highs (mp_lows (mp_some (mp_thrown M 0) (va_up M.2.1.1 (nI k).toNatClampNeg (z_t 1))) (va_up M.2.1.2.1 (nI k).toNatClampNeg (F_m_number (mp_thrown M 0) (nI u)))) (va_up M.2.1.2.2 (nI k).toNatClampNeg (F_m_number (mp_thrown M 0) (nI w))) := rfl
          rw [hB3, cs_num w1 u1 u2, cs_num w1 v1 v2, ms_num (th_mwd (v := 0) w2) u1 u2, ms_num (th_mwd (v := 0) w2) v1 v2, show (nI k).toNatClampNeg = k from nI_clamp (by omega)]
          generalize nmo e m u = A at *
          generalize nmo e m w = B at *
          have i1 : zL A = cw_inf ↔ A = 1152921504606846976 := by rw [zl_inf]; exact zl_eq (gd_zr gA) (by unfold zR; omega)
          have i2 : zL B = -cw_inf ↔ B = -1152921504606846976 := by rw [zl_inf, zl_neg]; exact zl_eq (gd_zr gB) (by unfold zR; omega)
          have i3 := zl_le (gd_zr gA) (gd_zr gB)
          have j1 : zL (ph A) = mw_far ↔ A = 1152921504606846976 := by
            rw [show mw_far = zL (ph 1152921504606846976) from rfl]
            exact (zl_eq (ph_zr gA) (ph_zr gd_I)).trans (ph_inj gA gd_I)
          have j2 : zL (ph B) = -mw_far ↔ B = -1152921504606846976 := by
            rw [show -mw_far = zL (ph (-1152921504606846976)) from rfl]
            exact (zl_eq (ph_zr gB) (ph_zr gd_nI)).trans (ph_inj gB gd_nI)
          have j3 : zL (ph B) < zL (ph A) ↔ B < A := (zl_lt (ph_zr gB) (ph_zr gA)).trans (ph_lt gB gA)
          by_cases hyes : A ≤ B ∧ ¬ A = 1152921504606846976 ∧ ¬ B = -1152921504606846976
          · obtain ⟨y1, y2, y3⟩ := hyes
            have n1 : ¬ zL A = cw_inf := fun q => y2 (i1.mp q)
            have n2 : ¬ zL B = -cw_inf := fun q => y3 (i2.mp q)
            have n3 : zL A ≤ zL B := i3.mpr y1
            have o1 : ¬ zL (ph A) = mw_far := fun q => y2 (j1.mp q)
            have o2 : ¬ zL (ph B) = -mw_far := fun q => y3 (j2.mp q)
            have o3 : ¬ zL (ph B) < zL (ph A) := fun q => absurd (j3.mp q) (by omega)
            rw [if_neg n1, if_neg n1, if_neg n2, if_neg n2, if_pos n3, if_pos n3, if_neg o3, if_neg o3, if_neg o1, if_neg o1, if_neg o2, if_neg o2]
            refine ⟨rfl, e, m, be_w w1, w2, fun j hj => ?_⟩
            show spl e m ((S_become c k (zL A) (zL B)).2.2 j) (va_up M.2.1.1 k (z_t 1) j) (va_up M.2.1.2.1 k (zL (ph A)) j) (va_up M.2.1.2.2 k (zL (ph B)) j)
            by_cases hjk : j = k
            · subst hjk
              rw [be_at, va_up1, va_up1, va_up1]
              have eB' : ehi e m B := by
                rcases eB with q | q | q
                · exact Or.inl q
                · exact absurd q y3
                · exact Or.inr q
              exact Or.inr ⟨z_tt, A, B, rfl, y1, eA.resolve_left y2, eB', rfl, rfl⟩
            · rw [be_ne _ _ _ hjk, va_up2 _ _ hjk, va_up2 _ _ hjk, va_up2 _ _ hjk]
              exact w3 j hj
          · have L : ∀ {α : Type} (p q : α), (if zL A = cw_inf then p else if zL B = -cw_inf then p else if zL A ≤ zL B then q else p) = p := by
              intro α p q
              by_cases k1 : A = 1152921504606846976
              · rw [if_pos (i1.mpr k1)]
              · rw [if_neg (fun q => k1 (i1.mp q))]
                by_cases k2 : B = -1152921504606846976
                · rw [if_pos (i2.mpr k2)]
                · rw [if_neg (fun q => k2 (i2.mp q)), if_neg (fun q => hyes ⟨i3.mp q, k1, k2⟩)]
            have R : ∀ {α : Type} (p q : α), (if zL (ph B) < zL (ph A) then p else if zL (ph A) = mw_far then p else if zL (ph B) = -mw_far then p else q) = p := by
              intro α p q
              by_cases k0 : B < A
              · rw [if_pos (j3.mpr k0)]
              · rw [if_neg (fun q => k0 (j3.mp q))]
                by_cases k1 : A = 1152921504606846976
                · rw [if_pos (j1.mpr k1)]
                · rw [if_neg (fun q => k1 (j1.mp q))]
                  by_cases k2 : B = -1152921504606846976
                  · rw [if_pos (j2.mpr k2)]
                  · exact absurd ⟨by omega, k1, k2⟩ hyes
            rw [L, L, R, R]
            exact ⟨rfl, th_rel h⟩
        · exact absurd q1 q3
      · rcases ms_isPat (th_mwd (v := 0) w2) z with ⟨q3, _⟩ | ⟨_, q3⟩
        · exact absurd q3 q1
        · rw [if_pos q2, if_pos q2, if_pos q3, if_pos q3]; exact ⟨rfl, th_rel h⟩
    · exact absurd p1 p3
  · rcases ms_isPat (th_mwd (v := 0) w2) y with ⟨p3, _⟩ | ⟨_, p3⟩
    · exact absurd p3 p1
    · rw [if_pos p2, if_pos p2, if_pos p3, if_pos p3]; exact ⟨rfl, th_rel h⟩
end PRT
