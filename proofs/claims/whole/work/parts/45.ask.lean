-- what is asked
section ASK
variable {c c' : cw_C} {M M' : mw_C} {e m i j : Nat}
theorem ok_kind (h : rel c M) (x : Int32) : F_kind c x = F_m_kind M x ∧ rel c (S_m_kind M x) := by
  rw [sk_m]
  refine ⟨?_, th_rel h⟩
  obtain ⟨e, m, w1, w2, w3⟩ := h
  unfold F_kind
  rcases ip_c x with ⟨g1, g2⟩ | ⟨g1, g2, k, hk, rfl⟩
  · rw [if_pos g1]
    unfold F_m_kind
    rw [if_pos g2]
  · rw [g1, if_neg n1_0, show (nI k).toNatClampNeg = k from nI_clamp (by omega)]
    exact kd_ok w2 w3 hk
def thr (M : mw_C) (x : Int32) : Int32 := if (F_m_isPlace x) = (0 : Int32) then (1 : Int32) else (if (z_i (M.2.1.1 x.toNatClampNeg)) = (0 : Int32) then (1 : Int32) else (0 : Int32))
theorem fl_c (hr : rlp e m c M) (hm : mwd M e m) (x : Int32) : (F_isFilled c x = 0 ∧ thr M x = 1 ∧ (F_isPlace x = 0 ∧ F_m_isPlace x = 0 ∨ F_isPlace x = 1 ∧ F_m_isPlace x = 1 ∧ ∃ k, k < 8 ∧ x = nI k ∧ M.2.1.1 k = false)) ∨ (F_isFilled c x = 1 ∧ thr M x = 0 ∧ F_isPlace x = 1 ∧ F_m_isPlace x = 1 ∧ ∃ k, k < 8 ∧ x = nI k ∧ M.2.1.1 k = true ∧ ∃ a b : Int, c.2.2 k = (zL a, zL b) ∧ a ≤ b ∧ elo e m a ∧ ehi e m b ∧ M.2.1.2.1 k = zL (ph a) ∧ M.2.1.2.2 k = zL (ph b)) := by
  unfold F_isFilled thr
  rcases ip_c x with ⟨g1, g2⟩ | ⟨g1, g2, k, hk, rfl⟩
  · left
    rw [if_pos g1, if_pos g2]
    exact ⟨rfl, rfl, Or.inl ⟨g1, g2⟩⟩
  · rw [g1, g2, if_neg n1_0, if_neg n1_0, show (nI k).toNatClampNeg = k from nI_clamp (by omega)]
    rcases hr k hk with ⟨h1, h2⟩ | ⟨h1, a, b, h2, h3, h4, h5, h6, h7⟩
    · left
      rw [if_neg (fun q => h2 (ie_0.mp q)), if_pos (z_i0.mpr h1)]
      exact ⟨rfl, rfl, Or.inr ⟨rfl, rfl, k, hk, rfl, h1⟩⟩
    · right
      have ga := ge_gd (elo_ge hm.2.1.2 hm.2.2.2 h4)
      have gb := ge_gd (ehi_ge hm.2.1.2 hm.2.2.2 h5)
      rw [if_pos (ie_0.mpr (by rw [h2]; exact (zl_le (gd_zr ga) (gd_zr gb)).mpr h3)), if_neg (show ¬ z_i (M.2.1.1 k) = 0 by rw [h1]; decide)]
      exact ⟨rfl, rfl, rfl, rfl, k, hk, rfl, h1, a, b, h2, h3, h4, h5, h6, h7⟩
theorem el_any {a : Int} (h : elo e m a) : a = 1152921504606846976 ∨ a = -1152921504606846976 ∨ fin e m a := Or.inr h
theorem eh_any {a : Int} (h : ehi e m a) : a = 1152921504606846976 ∨ a = -1152921504606846976 ∨ fin e m a := by
  rcases h with h | h
  · exact Or.inl h
  · exact Or.inr (Or.inr h)
theorem ag_n' {o : Option Int32} {M1 : mw_C} {r : Int32} (ho : o = none) (hM : M1 = mp_thrown M 1) (h : rel c M) : lw_ag o M1.1.1 r ∧ rel (lw_c o c c') M1 := by
  subst ho; subst hM
  exact ag_n h
theorem ag_s' {o : Option Int32} {M1 : mw_C} {v r : Int32} (ho : o = some v) (hM : M1 = mp_thrown M 0) (hv : v = r) (h : rel c M) : lw_ag o M1.1.1 r ∧ rel (lw_c o c c) M1 := by
  subst ho; subst hM
  exact ag_s hv rfl (th_rel h)
theorem l1_at (M : mw_C) (x : Int32) : S_m_low M x = mp_thrown M (thr M x) ∧ F_m_low M x = (if thr M x ≤ (0 : Int32) then F_m_pattern (mp_thrown M (thr M x)) (M.2.1.2.1 x.toNatClampNeg) else 0) := by
  constructor
  · unfold S_m_low; rw [ite_self]; rfl
  · rfl
theorem h1_at (M : mw_C) (x : Int32) : S_m_high M x = mp_thrown M (thr M x) ∧ F_m_high M x = (if thr M x ≤ (0 : Int32) then F_m_pattern (mp_thrown M (thr M x)) (M.2.1.2.2 x.toNatClampNeg) else 0) := by
  constructor
  · unfold S_m_high; rw [ite_self]; rfl
  · rfl
theorem wd_at (M : mw_C) (x : Int32) : S_m_width M x = mp_thrown M (thr M x) ∧ F_m_width M x = (if thr M x ≤ (0 : Int32) then F_m_pattern (mp_thrown M (thr M x)) (if (if (F_m_isEnd (M.2.1.2.1 x.toNatClampNeg)) = (0 : Int32) then (0 : Int32) else (if (F_m_isEnd (M.2.1.2.2 x.toNatClampNeg)) = (0 : Int32) then (0 : Int32) else (1 : Int32))) = (0 : Int32) then mw_far else F_m_rounded (mp_thrown M (thr M x)) ((M.2.1.2.2 x.toNatClampNeg) - (M.2.1.2.1 x.toNatClampNeg)) (1 : Int64) (1 : Int32)) else 0) := by
  constructor
  · unfold S_m_width; rw [ite_self]; rfl
  · rfl
theorem i0_0 : (0 : Int32) ≤ 0 := by decide
theorem ok_low (h : rel c M) (x : Int32) : lw_ag (F_low c x) (S_m_low M x).1.1 (F_m_low M x) ∧ rel (lw_c (F_low c x) c c) (S_m_low M x) := by
  have h' := h
  obtain ⟨e, m, w1, w2, w3⟩ := h'
  rcases fl_c w3 w2 x with ⟨f1, f2, _⟩ | ⟨f1, f2, _, _, k, hk, rfl, h1, a, b, h2, h3, h4, h5, h6, h7⟩
  · exact ag_n' (by unfold F_low; rw [if_pos f1]) (by rw [(l1_at M x).1, f2]) h
  · refine ag_s' (v := nI (pat e m a)) ?_ (by rw [(l1_at M (nI k)).1, f2]) ?_ h
    · unfold F_low
      rw [f1, if_neg n1_0, show (nI k).toNatClampNeg = k from nI_clamp (by omega), h2]
      dsimp only
      rw [cs_pat w1 (el_any h4)]
    · rw [(l1_at M (nI k)).2, f2, if_pos i0_0, show (nI k).toNatClampNeg = k from nI_clamp (by omega), h6, ms_pat (th_mwd (v := 0) w2) (el_any h4)]
theorem ok_high (h : rel c M) (x : Int32) : lw_ag (F_high c x) (S_m_high M x).1.1 (F_m_high M x) ∧ rel (lw_c (F_high c x) c c) (S_m_high M x) := by
  have h' := h
  obtain ⟨e, m, w1, w2, w3⟩ := h'
  rcases fl_c w3 w2 x with ⟨f1, f2, _⟩ | ⟨f1, f2, _, _, k, hk, rfl, h1, a, b, h2, h3, h4, h5, h6, h7⟩
  · exact ag_n' (by unfold F_high; rw [if_pos f1]) (by rw [(h1_at M x).1, f2]) h
  · refine ag_s' (v := nI (pat e m b)) ?_ (by rw [(h1_at M (nI k)).1, f2]) ?_ h
    · unfold F_high
      rw [f1, if_neg n1_0, show (nI k).toNatClampNeg = k from nI_clamp (by omega), h2]
      dsimp only
      rw [cs_pat w1 (eh_any h5)]
    · rw [(h1_at M (nI k)).2, f2, if_pos i0_0, show (nI k).toNatClampNeg = k from nI_clamp (by omega), h7, ms_pat (th_mwd (v := 0) w2) (eh_any h5)]
theorem ok_width (h : rel c M) (x : Int32) : lw_ag (F_width c x) (S_m_width M x).1.1 (F_m_width M x) ∧ rel (lw_c (F_width c x) c c) (S_m_width M x) := by
  have h' := h
  obtain ⟨e, m, w1, w2, w3⟩ := h'
  rcases fl_c w3 w2 x with ⟨f1, f2, _⟩ | ⟨f1, f2, _, _, k, hk, rfl, h1, a, b, h2, h3, h4, h5, h6, h7⟩
  · exact ag_n' (by unfold F_width; rw [if_pos f1]) (by rw [(wd_at M x).1, f2]) h
  · have he := w2.2.1.2
    have hmm := w2.2.2.2
    have la := elo_g he hmm h4
    have hb := ehi_g he hmm h5
    have ga := ge_gd (elo_ge he hmm h4)
    have gb := ge_gd (ehi_ge he hmm h5)
    have hE : ehi e m (nB e m (pl b (-a))) ∧ -1152921504606846976 ≤ pl b (-a) ∧ pl b (-a) ≤ 1152921504606846976 := by
      have : ghi (pl b (-a)) := pl_hi hb (glo_neg la) (ehi_ge he hmm h5) (ge_neg (elo_ge he hmm h4))
      refine ⟨nB_hi this, ?_, ?_⟩ <;> unfold ghi at this <;> omega
    refine ag_s' (v := nI (pat e m (nB e m (pl b (-a))))) ?_ (by rw [(wd_at M (nI k)).1, f2]) ?_ h
    · unfold F_width
      rw [f1, if_neg n1_0, show (nI k).toNatClampNeg = k from nI_clamp (by omega), h2]
      dsimp only
      rw [zl_neg, cs_plus (gd_zr gb) (gd_zr (gd_neg ga)), cs_nB w1 hE.2.1 hE.2.2, cs_pat w1 (eh_any hE.1)]
    · rw [(wd_at M (nI k)).2, f2, if_pos i0_0, show (nI k).toNatClampNeg = k from nI_clamp (by omega), h6, h7]
      have e1 := mi_end (ph_zr ga)
      have e2 := mi_end (ph_zr gb)
      rw [ph_end ga] at e1
      rw [ph_end gb] at e2
      unfold glo at la
      unfold ghi at hb
      by_cases hend : a = -1152921504606846976 ∨ b = 1152921504606846976
      · have hz : (if (F_m_isEnd (zL (ph a))) = (0 : Int32) then (0 : Int32) else (if (F_m_isEnd (zL (ph b))) = (0 : Int32) then (0 : Int32) else (1 : Int32))) = 0 := by
          by_cases q1 : a = -1152921504606846976
          · rw [if_pos (e1.mpr (fun q => q (Or.inr q1)))]
          · rw [if_neg (fun q => e1.mp q (by omega)), if_pos (e2.mpr (fun q => q (Or.inl (by omega))))]
        have hp : pl b (-a) = 1152921504606846976 := by
          unfold pl
          by_cases q1 : b = 1152921504606846976
          · rw [if_pos (Or.inl q1), q1]
          · rw [if_neg (by omega), if_pos (by omega)]; omega
        rw [if_pos hz, hp, nB_self he hmm (Or.inl rfl), show mw_far = zL (ph 1152921504606846976) from rfl, ms_pat (th_mwd (v := 0) w2) (Or.inl rfl)]
      · have hz : ¬ (if (F_m_isEnd (zL (ph a))) = (0 : Int32) then (0 : Int32) else (if (F_m_isEnd (zL (ph b))) = (0 : Int32) then (0 : Int32) else (1 : Int32))) = 0 := by
          rw [if_neg (fun q => e1.mp q (by omega)), if_neg (fun q => e2.mp q (by omega))]
          exact n1_0
        have fa := fin_b he hmm (h4.resolve_left (by omega))
        have fb9 := fin_b he hmm (h5.resolve_left (by omega))
        have hp : pl b (-a) = b - a := by
          unfold pl
          rw [if_neg (by omega), if_neg (by omega)]; omega
        rw [if_neg hz, ph_id (a := a) (by omega) (by omega), ph_id (a := b) (by omega) (by omega), zl_sub, zl_1, ms_up (th_mwd (v := 0) w2) (by omega) (by omega) (by omega) (by omega), Int.ediv_one, Int.neg_neg, ← hp, ms_pat (th_mwd (v := 0) w2) (eh_any hE.1)]
theorem mid_c (hw : cwd c e m) {a b : Int} (hab : a ≤ b) (fa : fin e m a) (fb9 : fin e m b) :
    F_patternOfHalf c (zL a + zL b) = nI (pat e m (if (a + b) - 2 * nA e m ((a + b) / 2) < 2 * nB e m ((a + b) - (a + b) / 2) - (a + b) then nA e m ((a + b) / 2) else if (a + b) - 2 * nA e m ((a + b) / 2) = 2 * nB e m ((a + b) - (a + b) / 2) - (a + b) then (if (nI (pat e m (nA e m ((a + b) / 2))) &&& (1 : Int32)) = 0 then nA e m ((a + b) / 2) else nB e m ((a + b) - (a + b) / 2)) else nB e m ((a + b) - (a + b) / 2))) ∧ fin e m (nA e m ((a + b) / 2)) ∧ fin e m (nB e m ((a + b) - (a + b) / 2)) := by
  have he := hw.2.1.2
  have hmm := hw.2.2.2
  have ra := fin_b he hmm fa
  have rb := fin_b he hmm fb9
  have m1 := nA_mono he hmm (show a ≤ (a + b) / 2 by omega)
  rw [nA_self he hmm (Or.inr fa)] at m1
  have m2 := nB_mono he hmm (show (a + b) - (a + b) / 2 ≤ b by omega)
  rw [nB_self he hmm (Or.inr fb9)] at m2
  have f1 : fin e m (nA e m ((a + b) / 2)) := (nA_lo (e := e) (m := m) (a := (a + b) / 2) (by unfold glo; omega)).resolve_left (by omega)
  have f2 : fin e m (nB e m ((a + b) - (a + b) / 2)) := (nB_hi (e := e) (m := m) (a := (a + b) - (a + b) / 2) (by unfold ghi; omega)).resolve_left (by omega)
  refine ⟨?_, f1, f2⟩
  have r1 := fin_b he hmm f1
  have r2 := fin_b he hmm f2
  unfold F_patternOfHalf
  rw [zl_add, show (1 : Int32) = nI 1 from rfl, zl_shr (by unfold zR; omega) (by omega), show ((2 : Int) ^ 1) = 2 from rfl, zl_sub, cs_nA hw (by omega) (by omega), cs_nB hw (by omega) (by omega), zl_2, zl_mul, zl_mul, zl_sub, zl_sub, cs_pat hw (Or.inr (Or.inr f1)), cs_pat hw (Or.inr (Or.inr f2))]
  generalize nA e m ((a + b) / 2) = L at *
  generalize nB e m ((a + b) - (a + b) / 2) = H at *
  have i1 := zl_lt (a := a + b - 2 * L) (b := 2 * H - (a + b)) (by unfold zR; omega) (by unfold zR; omega)
  have i2 := zl_eq (a := a + b - 2 * L) (b := 2 * H - (a + b)) (by unfold zR; omega) (by unfold zR; omega)
  have n10 : ¬ nI 1 = (0 : Int32) := n1_0
  by_cases k1 : a + b - 2 * L < 2 * H - (a + b)
  · rw [if_pos (i1.mpr k1), if_pos k1, if_neg n10]
  · rw [if_neg (fun q => k1 (i1.mp q)), if_neg k1]
    by_cases k2 : a + b - 2 * L = 2 * H - (a + b)
    · rw [if_pos (i2.mpr k2), if_pos k2]
      by_cases k3 : (nI (pat e m L) &&& nI 1) = 0
      · rw [if_pos k3, if_pos k3, if_neg n10]
      · rw [if_neg k3, if_neg k3, if_pos (show (0 : Int32) = 0 from rfl)]
    · rw [if_neg (fun q => k2 (i2.mp q)), if_neg k2, if_pos (show (0 : Int32) = 0 from rfl)]
theorem md_at (M : mw_C) (x : Int32) : F_m_middle M x = (if (F_m_kind M x) = (1 : Int32) then F_m_pattern (mp_thrown M 0) (if (A_m_middle_4 M x) < (0 : Int64) then A_m_middle_2 M x else (if (A_m_middle_4 M x) = (0 : Int64) then (if (I_m_middle_5 M x) = (0 : Int32) then A_m_middle_3 M x else A_m_middle_2 M x) else A_m_middle_3 M x)) else (if (F_m_kind M x) = (2 : Int32) then F_m_pattern (mp_thrown M 0) (if (A_m_middle_4 M x) < (0 : Int64) then A_m_middle_2 M x else (if (A_m_middle_4 M x) = (0 : Int64) then (if (I_m_middle_5 M x) = (0 : Int32) then A_m_middle_3 M x else A_m_middle_2 M x) else A_m_middle_3 M x)) else F_m_raise (mp_thrown M 0) (1 : Int32))) ∧ S_m_middle M x = (if (F_m_kind M x) = (1 : Int32) then mp_thrown M 0 else (if (F_m_kind M x) = (2 : Int32) then mp_thrown M 0 else mp_thrown M 1)) := by
  constructor
  · unfold F_m_middle; rw [sk_m]
  · unfold S_m_middle; rw [sk_m]; rfl
theorem mid_m (hm : mwd M e m) {k : Nat} (hk : k < 8) {a b : Int} (hl : M.2.1.2.1 k = zL (ph a)) (hh : M.2.1.2.2 k = zL (ph b)) (hab : a ≤ b) (fa : fin e m a) (fb9 : fin e m b) (f1 : fin e m (nA e m ((a + b) / 2))) (f2 : fin e m (nB e m ((a + b) - (a + b) / 2))) :
    F_m_pattern (mp_thrown M 0) (if (A_m_middle_4 M (nI k)) < (0 : Int64) then A_m_middle_2 M (nI k) else (if (A_m_middle_4 M (nI k)) = (0 : Int64) then (if (I_m_middle_5 M (nI k)) = (0 : Int32) then A_m_middle_3 M (nI k) else A_m_middle_2 M (nI k)) else A_m_middle_3 M (nI k))) = nI (pat e m (if (a + b) - 2 * nA e m ((a + b) / 2) < 2 * nB e m ((a + b) - (a + b) / 2) - (a + b) then nA e m ((a + b) / 2) else if (a + b) - 2 * nA e m ((a + b) / 2) = 2 * nB e m ((a + b) - (a + b) / 2) - (a + b) then (if (nI (pat e m (nA e m ((a + b) / 2))) &&& (1 : Int32)) = 0 then nA e m ((a + b) / 2) else nB e m ((a + b) - (a + b) / 2)) else nB e m ((a + b) - (a + b) / 2))) := by
  have he := hm.2.1.2
  have hmm := hm.2.2.2
  have ra := fin_b he hmm fa
  have rb := fin_b he hmm fb9
  have r1 := fin_b he hmm f1
  have r2 := fin_b he hmm f2
  have ck : (nI k).toNatClampNeg = k := nI_clamp (by omega)
  have hw := th_mwd (v := 0) hm
  have a1 : A_m_middle_1 M (nI k) = zL (a + b) := by
    unfold A_m_middle_1
    rw [sk_m]
    show M.2.1.2.1 (nI k).toNatClampNeg + M.2.1.2.2 (nI k).toNatClampNeg = _
    rw [ck, hl, hh, ph_id (a := a) (by omega) (by omega), ph_id (a := b) (by omega) (by omega), zl_add]
  have a2 : A_m_middle_2 M (nI k) = zL (nA e m ((a + b) / 2)) := by
    unfold A_m_middle_2
    rw [sk_m, a1, zl_2, ms_dn hw (by omega) (by omega) (by omega) (by omega), ph_id (by omega) (by omega)]
  have a3 : A_m_middle_3 M (nI k) = zL (nB e m ((a + b) - (a + b) / 2)) := by
    unfold A_m_middle_3
    rw [sk_m, a1, zl_2, ms_up hw (by omega) (by omega) (by omega) (by omega), show -(-(a + b) / 2) = (a + b) - (a + b) / 2 by omega, ph_id (by omega) (by omega)]
  have a4 : A_m_middle_4 M (nI k) = zL (((a + b) - 2 * nA e m ((a + b) / 2)) - (2 * nB e m ((a + b) - (a + b) / 2) - (a + b))) := by
    unfold A_m_middle_4
    rw [a1, a2, a3, zl_2, zl_mul, zl_mul, zl_sub, zl_sub, zl_sub]
  have p1 : F_m_pattern (mp_thrown M 0) (zL (nA e m ((a + b) / 2))) = nI (pat e m (nA e m ((a + b) / 2))) := by
    have := ms_pat hw (Or.inr (Or.inr f1))
    rw [ph_id (by omega) (by omega)] at this
    exact this
  have p2 : F_m_pattern (mp_thrown M 0) (zL (nB e m ((a + b) - (a + b) / 2))) = nI (pat e m (nB e m ((a + b) - (a + b) / 2))) := by
    have := ms_pat hw (Or.inr (Or.inr f2))
    rw [ph_id (by omega) (by omega)] at this
    exact this
  have a5 : I_m_middle_5 M (nI k) = (if (nI (pat e m (nA e m ((a + b) / 2))) &&& (1 : Int32)) = 0 then 1 else 0) := by
    unfold I_m_middle_5
    rw [sk_m, a2, p1]
  rw [a2, a3, a4, a5]
  generalize nA e m ((a + b) / 2) = L at *
  generalize nB e m ((a + b) - (a + b) / 2) = H at *
  have i1 := zl_lt0 (a := a + b - 2 * L - (2 * H - (a + b))) (by unfold zR; omega)
  have i2 := zl_eq0 (a := a + b - 2 * L - (2 * H - (a + b))) (by unfold zR; omega)
  by_cases k1 : a + b - 2 * L < 2 * H - (a + b)
  · rw [if_pos (i1.mpr (by omega)), if_pos k1, p1]
  · rw [if_neg (fun q => k1 (by have := i1.mp q; omega)), if_neg k1]
    by_cases k2 : a + b - 2 * L = 2 * H - (a + b)
    · rw [if_pos (i2.mpr (by omega)), if_pos k2]
      by_cases k3 : (nI (pat e m L) &&& (1 : Int32)) = 0
      · rw [if_pos k3, if_pos k3, if_neg n1_0, p1]
      · rw [if_neg k3, if_neg k3, if_pos (show (0 : Int32) = 0 from rfl), p2]
    · rw [if_neg (fun q => k2 (by have := i2.mp q; omega)), if_neg k2, p2]
theorem ok_middle (h : rel c M) (x : Int32) : lw_ag (F_middle c x) (S_m_middle M x).1.1 (F_m_middle M x) ∧ rel (lw_c (F_middle c x) c c) (S_m_middle M x) := by
  have h' := h
  obtain ⟨e, m, w1, w2, w3⟩ := h'
  obtain ⟨d1, d2⟩ := md_at M x
  rcases fl_c w3 w2 x with ⟨f1, f2, f3⟩ | ⟨f1, f2, _, _, k, hk, rfl, h1, a, b, h2, h3, h4, h5, h6, h7⟩
  · have hkd : ¬ F_m_kind M x = 1 ∧ ¬ F_m_kind M x = 2 := by
      rcases f3 with ⟨_, g2⟩ | ⟨_, _, k, hk, rfl, g⟩
      · have : F_m_kind M x = -1 := by unfold F_m_kind; rw [if_pos g2]
        rw [this]; decide
      · rw [kn_me hk g]; decide
    rw [if_neg hkd.1, if_neg hkd.2] at d2
    exact ag_n' (by unfold F_middle; rw [if_pos f1]) d2 h
  · have he := w2.2.1.2
    have hmm := w2.2.2.2
    have la := elo_g he hmm h4
    have hb := ehi_g he hmm h5
    have ga := ge_gd (elo_ge he hmm h4)
    have gb := ge_gd (ehi_ge he hmm h5)
    have hkn := kn_m hk h1 h6 h7 la hb
    have ck : (nI k).toNatClampNeg = k := nI_clamp (by omega)
    have e1 : zL a = -cw_inf ↔ a = -1152921504606846976 := by rw [zl_inf, zl_neg]; exact zl_eq (gd_zr ga) (by unfold zR; omega)
    have e2 : zL b = cw_inf ↔ b = 1152921504606846976 := by rw [zl_inf]; exact zl_eq (gd_zr gb) (by unfold zR; omega)
    by_cases hend : a = -1152921504606846976 ∨ b = 1152921504606846976
    · have hkd : ¬ F_m_kind M (nI k) = 1 ∧ ¬ F_m_kind M (nI k) = 2 := by
        rw [hkn]
        unfold kno
        by_cases q1 : a = -1152921504606846976
        · rw [if_pos q1]
          by_cases q2 : b = 1152921504606846976
          · rw [if_pos q2]; decide
          · rw [if_neg q2]; decide
        · rw [if_neg q1, if_pos (by omega)]; decide
      rw [if_neg hkd.1, if_neg hkd.2] at d2
      refine ag_n' ?_ d2 h
      unfold F_middle F_lacksAnEnd
      rw [f1, if_neg n1_0, ck, h2]
      dsimp only
      by_cases q1 : a = -1152921504606846976
      · rw [if_pos (e1.mpr q1), if_neg n1_0]
      · rw [if_neg (fun q => q1 (e1.mp q)), if_pos (e2.mpr (by omega)), if_neg n1_0]
    · have fa := h4.resolve_left (by omega)
      have fb9 := h5.resolve_left (by omega)
      obtain ⟨c1, c2, c3⟩ := mid_c w1 h3 fa fb9
      have m1 := mid_m w2 hk h6 h7 h3 fa fb9 c2 c3
      rw [m1] at d1
      have hk12 : (F_m_kind M (nI k) = 1) ∨ (¬ F_m_kind M (nI k) = 1 ∧ F_m_kind M (nI k) = 2) := by
        rw [hkn]
        unfold kno
        rw [if_neg (show ¬ a = -1152921504606846976 by omega), if_neg (show ¬ b = 1152921504606846976 by omega)]
        by_cases q2 : a = b
        · rw [if_pos q2]; left; rfl
        · rw [if_neg q2]; right; decide
      have dd : F_m_middle M (nI k) = nI (pat e m (if (a + b) - 2 * nA e m ((a + b) / 2) < 2 * nB e m ((a + b) - (a + b) / 2) - (a + b) then nA e m ((a + b) / 2) else if (a + b) - 2 * nA e m ((a + b) / 2) = 2 * nB e m ((a + b) - (a + b) / 2) - (a + b) then (if (nI (pat e m (nA e m ((a + b) / 2))) &&& (1 : Int32)) = 0 then nA e m ((a + b) / 2) else nB e m ((a + b) - (a + b) / 2)) else nB e m ((a + b) - (a + b) / 2))) ∧ S_m_middle M (nI k) = mp_thrown M 0 := by
        rw [d1, d2]
        rcases hk12 with q | ⟨q1, q2⟩
        · rw [if_pos q, if_pos q]; exact ⟨rfl, rfl⟩
        · rw [if_neg q1, if_pos q2, if_neg q1, if_pos q2]; exact ⟨rfl, rfl⟩
      refine ag_s' ?_ dd.2 dd.1.symm h
      unfold F_middle F_lacksAnEnd
      rw [f1, if_neg n1_0, ck, h2]
      dsimp only
      rw [if_neg (fun q => hend (Or.inl (e1.mp q))), if_neg (fun q => hend (Or.inr (e2.mp q))), if_pos (show (0 : Int32) = 0 from rfl), c1]
-- comparing
theorem exB (P : Prop) [Decidable P] : ∃ u : Bool, P ↔ u = true := ⟨decide P, by simp⟩
theorem ifb {P : Prop} [Decidable P] {u : Bool} (h : P ↔ u = true) {α : Type} (x y : α) : (if P then x else y) = (if u = true then x else y) := by
  by_cases q : P
  · rw [if_pos q, if_pos (h.mp q)]
  · rw [if_neg q, if_neg (fun r => q (h.mpr r))]
def hab (n1 n2 : Bool) : Int32 := if n1 = true then 0 else if n2 = true then 0 else 1
def cmC (u1 u2 u3 u4 n1 n2 n3 n4 : Bool) : Int32 := (((((if u1 = true then (0 : Int32) else (1 : Int32)) ||| (if u2 = true then (0 : Int32) else (if u3 = true then (0 : Int32) else (2 : Int32)))) ||| (if u4 = true then (0 : Int32) else (4 : Int32))) ||| (if hab n1 n2 = (0 : Int32) then (0 : Int32) else (8 : Int32))) ||| (if hab n3 n4 = (0 : Int32) then (0 : Int32) else (16 : Int32))) ||| (if hab n1 n2 = (0 : Int32) then (0 : Int32) else (if hab n3 n4 = (0 : Int32) then (0 : Int32) else (32 : Int32)))
def cm5 (u1 u5 : Bool) : Int32 := if u5 = true then (if u1 = true then (0 : Int32) else (1 : Int32)) else (if u1 = true then (0 : Int32) else (1 : Int32)) + (2 : Int32)
def cm6 (u1 u5 u4 : Bool) : Int32 := if u4 = true then cm5 u1 u5 else (cm5 u1 u5) + (4 : Int32)
def cm7 (u1 u5 u4 n1 n2 : Bool) : Int32 := if n1 = true then cm6 u1 u5 u4 else (if n2 = true then cm6 u1 u5 u4 else (cm6 u1 u5 u4) + (8 : Int32))
def cm8 (u1 u5 u4 n1 n2 n3 n4 : Bool) : Int32 := if n3 = true then cm7 u1 u5 u4 n1 n2 else (if n4 = true then cm7 u1 u5 u4 n1 n2 else (cm7 u1 u5 u4 n1 n2) + (16 : Int32))
def cm9 (u1 u5 u4 n1 n2 n3 n4 e1 e2 : Bool) : Int32 := if e1 = true then (if e2 = true then (cm8 u1 u5 u4 n1 n2 n3 n4) + (32 : Int32) else cm8 u1 u5 u4 n1 n2 n3 n4) else cm8 u1 u5 u4 n1 n2 n3 n4
theorem cm_key : ∀ u1 u2 u3 u4 n1 n2 n3 n4 : Bool, cmC u1 u2 u3 u4 n1 n2 n3 n4 = cm9 u1 (u2 || u3) u4 n1 n2 n3 n4 (!n1 && !n3) (!n2 && !n4) := by decide +kernel
theorem ac_at {x y : Int32} {k j : Nat} (hk : x.toNatClampNeg = k) (hj : y.toNatClampNeg = j) : A_m_compare_1 M x y = M.2.1.2.1 k ∧ A_m_compare_2 M x y = M.2.1.2.2 k ∧ A_m_compare_3 M x y = M.2.1.2.1 j ∧ A_m_compare_4 M x y = M.2.1.2.2 j := by
  subst hk; subst hj
  exact ⟨rfl, rfl, rfl, rfl⟩
theorem bneg {P Q : Prop} {u v : Bool} (hu : P ↔ u = true) (hv : Q ↔ v = true) : (¬ P ∧ ¬ Q) ↔ (!u && !v) = true := by
  rw [hu, hv]; cases u <;> cases v <;> decide
theorem bor {P Q : Prop} {u v : Bool} (hu : P ↔ u = true) (hv : Q ↔ v = true) : (P ∨ Q) ↔ (u || v) = true := by
  rw [hu, hv]; cases u <;> cases v <;> decide
theorem sc_m (M : mw_C) (x y : Int32) : S_m_compare M x y = mp_thrown M 0 := by
  unfold S_m_compare
  simp only [ite_self]
theorem sh_m (M : mw_C) (x y : Int32) : S_m_has M x y = mp_thrown M 0 := by
  unfold S_m_has
  simp only [ite_self]
theorem ok_compare (h : rel c M) (x y : Int32) : F_compare c x y = F_m_compare M x y ∧ rel c (S_m_compare M x y) := by
  rw [sc_m]
  refine ⟨?_, th_rel h⟩
  obtain ⟨e, m, w1, w2, w3⟩ := h
  have he := w2.2.1.2
  have hmm := w2.2.2.2
  unfold F_compare F_m_compare
  rcases fl_c w3 w2 x with ⟨f1, _, f3⟩ | ⟨f1, f2, f3, f4, k, hk, rfl, h1, a, b, h2, h3, h4, h5, h6, h7⟩
  · rcases f3 with ⟨g1, g2⟩ | ⟨g1, g2, k, hk, rfl, g⟩
    · rw [if_pos g1, if_pos g2]
    · rw [g1, g2, if_neg n1_0, if_neg n1_0]
      rcases ip_c y with ⟨q1, q2⟩ | ⟨q1, q2, _⟩
      · rw [if_pos q1, if_pos q2]
      · rw [q1, q2, if_neg n1_0, if_neg n1_0, if_pos f1, if_pos (z_i0.mpr (by show M.2.1.1 (nI k).toNatClampNeg = false; rw [nI_clamp (by omega)]; exact g))]
  · have ck : (nI k).toNatClampNeg = k := nI_clamp (by omega)
    have hx : ¬ z_i ((mp_thrown M 0).2.1.1 (nI k).toNatClampNeg) = 0 := by
      show ¬ z_i (M.2.1.1 (nI k).toNatClampNeg) = 0
      rw [ck, h1]; decide
    rw [f3, f4, f1, if_neg n1_0, if_neg n1_0]
    rcases fl_c w3 w2 y with ⟨r1, _, r3⟩ | ⟨r1, r2, r3, r4, j, hj, rfl, g1, p, q, g2, g3, g4, g5, g6, g7⟩
    · rcases r3 with ⟨q1, q2⟩ | ⟨q1, q2, j, hj, rfl, g⟩
      · rw [if_pos q1, if_pos q2, if_neg n1_0]
      · rw [q1, q2, if_neg n1_0, if_neg n1_0, if_neg n1_0, if_pos r1, if_neg hx, if_pos (z_i0.mpr (by show M.2.1.1 (nI j).toNatClampNeg = false; rw [nI_clamp (by omega)]; exact g))]
    · have cj : (nI j).toNatClampNeg = j := nI_clamp (by omega)
      have hy : ¬ z_i ((mp_thrown M 0).2.1.1 (nI j).toNatClampNeg) = 0 := by
        show ¬ z_i (M.2.1.1 (nI j).toNatClampNeg) = 0
        rw [cj, g1]; decide
      have ga := ge_gd (elo_ge he hmm h4)
      have gb := ge_gd (ehi_ge he hmm h5)
      have gp := ge_gd (elo_ge he hmm g4)
      have gq := ge_gd (ehi_ge he hmm g5)
      rw [r3, r4, r1, if_neg n1_0, if_neg n1_0, if_neg n1_0, if_neg n1_0, if_neg hx, if_neg hy, ck, cj]
      unfold F_holdsAllOf I_m_compare_9 I_m_compare_8 I_m_compare_7 I_m_compare_6 I_m_compare_5
      obtain ⟨t1, t2, t3, t4⟩ := ac_at (M := M) ck cj
      rw [t1, t2, t3, t4, h2, g2, h6, h7, g6, g7, mless gb gq, mmore ga gp]
      dsimp only
      obtain ⟨u1, i1⟩ := exB (q ≤ a)
      obtain ⟨u2, i2⟩ := exB (q < a)
      obtain ⟨u3, i3⟩ := exB (b < p)
      obtain ⟨u4, i4⟩ := exB (b ≤ p)
      obtain ⟨n1, k1⟩ := exB (a < p)
      obtain ⟨n2, k2⟩ := exB (q < b)
      obtain ⟨n3, k3⟩ := exB (p < a)
      obtain ⟨n4, k4⟩ := exB (b < q)
      have z1 := (zl_le (gd_zr gq) (gd_zr ga)).trans i1
      have z2 := (zl_lt (gd_zr gq) (gd_zr ga)).trans i2
      have z3 := (zl_lt (gd_zr gb) (gd_zr gp)).trans i3
      have z4 := (zl_le (gd_zr gb) (gd_zr gp)).trans i4
      have z5 := (zl_lt (gd_zr ga) (gd_zr gp)).trans k1
      have z6 := (zl_lt (gd_zr gq) (gd_zr gb)).trans k2
      have z7 := (zl_lt (gd_zr gp) (gd_zr ga)).trans k3
      have z8 := (zl_lt (gd_zr gb) (gd_zr gq)).trans k4
      have y1 := ((zl_le (ph_zr gq) (ph_zr ga)).trans (ph_le gq ga)).trans i1
      have y4 := ((zl_le (ph_zr gb) (ph_zr gp)).trans (ph_le gb gp)).trans i4
      have y5 := ((zl_lt (ph_zr ga) (ph_zr gp)).trans (ph_lt ga gp)).trans k1
      have y6 := ((zl_lt (ph_zr gq) (ph_zr gb)).trans (ph_lt gq gb)).trans k2
      have y7 := ((zl_lt (ph_zr gp) (ph_zr ga)).trans (ph_lt gp ga)).trans k3
      have y8 := ((zl_lt (ph_zr gb) (ph_zr gq)).trans (ph_lt gb gq)).trans k4
      have y2 : zL (ph (min b q)) < zL (ph (max a p)) ↔ (u2 || u3) = true := ((zl_lt (ph_zr (gd_min gb gq)) (ph_zr (gd_max ga gp))).trans (ph_lt (gd_min gb gq) (gd_max ga gp))).trans ((show min b q < max a p ↔ (q < a ∨ b < p) by omega).trans (bor i2 i3))
      have y9 : zL (ph a) = zL (ph p) ↔ (!n1 && !n3) = true := ((zl_eq (ph_zr ga) (ph_zr gp)).trans (ph_inj ga gp)).trans ((show a = p ↔ (¬ a < p ∧ ¬ p < a) by omega).trans (bneg k1 k3))
      have y10 : zL (ph b) = zL (ph q) ↔ (!n2 && !n4) = true := ((zl_eq (ph_zr gb) (ph_zr gq)).trans (ph_inj gb gq)).trans ((show b = q ↔ (¬ q < b ∧ ¬ b < q) by omega).trans (bneg k2 k4))
      simp only [ifb z1, ifb z2, ifb z3, ifb z4, ifb z5, ifb z6, ifb z7, ifb z8, ifb y1, ifb y2, ifb y4, ifb y5, ifb y6, ifb y7, ifb y8, ifb y9, ifb y10]
      exact cm_key u1 u2 u3 u4 n1 n2 n3 n4
theorem ok_has (h : rel c M) (x y : Int32) : F_has c x y = F_m_has M x y ∧ rel c (S_m_has M x y) := by
  rw [sh_m]
  refine ⟨?_, th_rel h⟩
  obtain ⟨e, m, w1, w2, w3⟩ := h
  have he := w2.2.1.2
  have hmm := w2.2.2.2
  unfold F_has F_m_has
  rcases fl_c w3 w2 x with ⟨f1, _, f3⟩ | ⟨f1, f2, f3, f4, k, hk, rfl, h1, a, b, h2, h3, h4, h5, h6, h7⟩
  · rcases f3 with ⟨g1, g2⟩ | ⟨g1, g2, k, hk, rfl, g⟩
    · rw [if_pos f1, if_pos g2]
    · rw [if_pos f1, g2, if_neg n1_0, if_pos (z_i0.mpr (by show M.2.1.1 (nI k).toNatClampNeg = false; rw [nI_clamp (by omega)]; exact g))]
  · have ck : (nI k).toNatClampNeg = k := nI_clamp (by omega)
    have hx : ¬ z_i ((mp_thrown M 0).2.1.1 (nI k).toNatClampNeg) = 0 := by
      show ¬ z_i (M.2.1.1 (nI k).toNatClampNeg) = 0
      rw [ck, h1]; decide
    rw [f1, f4, if_neg n1_0, if_neg n1_0, if_neg hx]
    have ga := ge_gd (elo_ge he hmm h4)
    have gb := ge_gd (ehi_ge he hmm h5)
    rcases cs_isPat w1 y with ⟨p1, p2⟩ | ⟨p1, p2⟩
    · rcases ms_isPat (th_mwd (v := 0) w2) y with ⟨_, p3⟩ | ⟨p3, _⟩
      · rw [p2, p3, if_neg n1_0, if_neg n1_0]
        obtain ⟨u, rfl, u1, u2⟩ := p1
        have gA := nm_gd w1.2.1 w1.2.2 u2
        have hl : (mp_thrown M 0).2.1.2.1 (nI k).toNatClampNeg = zL (ph a) := by
          show M.2.1.2.1 (nI k).toNatClampNeg = _
          rw [ck, h6]
        have hh : (mp_thrown M 0).2.1.2.2 (nI k).toNatClampNeg = zL (ph b) := by
          show M.2.1.2.2 (nI k).toNatClampNeg = _
          rw [ck, h7]
        rw [cs_num w1 u1 u2, ms_num (th_mwd (v := 0) w2) u1 u2, hl, hh, ck, h2]
        dsimp only
        generalize nmo e m u = A at *
        have e1 := mi_end (ph_zr gA)
        rw [ph_end gA] at e1
        have e2 := zi_end (gd_zr gA)
        by_cases q1 : A = 1152921504606846976 ∨ A = -1152921504606846976
        · rw [if_neg (fun q => e2.mp q q1), if_pos (e1.mpr (fun q => q q1))]
        · rw [if_pos (e2.mpr q1), if_neg (fun q => e1.mp q q1)]
          have s1 := zl_lt (gd_zr gA) (gd_zr ga)
          have s2 := zl_lt (gd_zr gb) (gd_zr gA)
          have s3 := (zl_lt (ph_zr gA) (ph_zr ga)).trans (ph_lt gA ga)
          have s4 := (zl_lt (ph_zr gb) (ph_zr gA)).trans (ph_lt gb gA)
          by_cases t1 : A < a
          · rw [if_pos (s1.mpr t1), if_pos (s3.mpr t1)]
          · rw [if_neg (fun q => t1 (s1.mp q)), if_neg (fun q => t1 (s3.mp q))]
            by_cases t2 : b < A
            · rw [if_pos (s2.mpr t2), if_pos (s4.mpr t2)]
            · rw [if_neg (fun q => t2 (s2.mp q)), if_neg (fun q => t2 (s4.mp q))]
      · exact absurd p1 p3
    · rcases ms_isPat (th_mwd (v := 0) w2) y with ⟨p3, _⟩ | ⟨_, p3⟩
      · exact absurd p3 p1
      · rw [if_pos p2, if_pos p3]
/-- the mirrors agree -/
theorem agree : lw_Ag rel := by
  intro c M h
  exact ⟨ok_format h, ok_set h, ok_clear h, ok_does h, ok_part h, ok_sum h, ok_kind h, ok_low h, ok_high h, ok_middle h, ok_width h, ok_compare h, ok_has h⟩
theorem rel0 : rel kd_c0 km_c0 := ⟨4, 10, ⟨⟨rfl, rfl⟩, by omega, by omega⟩, ⟨⟨rfl, rfl⟩, by omega, by omega⟩, fun k _ => Or.inl ⟨rfl, e10⟩⟩
end ASK
