-- many places in a row, and the calls that throw
section SUM
variable {c c' : cw_C} {M M' : mw_C} {e m i j : Nat}
theorem th_mwd {v : Int32} (h : mwd M e m) : mwd (mp_thrown M v) e m := h
theorem th_rlp {v : Int32} (h : rlp e m c M) : rlp e m c (mp_thrown M v) := h
theorem th_rel {v : Int32} (h : rel c M) : rel c (mp_thrown M v) := by
  obtain ⟨e, m, h1, h2, h3⟩ := h
  exact ⟨e, m, h1, th_mwd h2, th_rlp h3⟩
theorem ag_n {r : Int32} (h : rel c M) : lw_ag none (S_m_raise M 1).1.1 r ∧ rel (lw_c none c c') (S_m_raise M 1) :=
  ⟨⟨fun _ => rfl, fun v q => by cases q⟩, th_rel h⟩
theorem ag_s {v r : Int32} (h1 : v = r) (h2 : M'.1.1 = 0) (h3 : rel c' M') : lw_ag (some v) M'.1.1 r ∧ rel (lw_c (some v) c c') M' := by
  refine ⟨⟨fun q => by (cases q), fun w q => ?_⟩, h3⟩
  have := Option.some.inj q
  exact ⟨h2, by rw [← h1]; exact this⟩
theorem keep_ag {c0 : cw_C} {w : Nat} (hw : cwd c e m) (hm : mwd M e m) (hr : rlp e m c M) (cf : cfr c c') (mf : mfr M M') {u : Nat} (hu : 8 ≤ u)
    (hk : kps e m (c'.2.2 u) M'.2.2.1.1 M'.2.2.1.2.1 M'.2.2.1.2.2) (hj : j < 8) (hwj : w = j) :
    lw_ag (some (F_keep c' u w)) (S_m_keep M' (nI j)).1.1 (F_m_keep M' (nI j)) ∧ rel (lw_c (some (F_keep c' u w)) c0 (S_keep c' u w)) (S_m_keep M' (nI j)) := by
  subst hwj
  obtain ⟨a1, a2, a3, a4, a5, a6⟩ := keep_ok hw hm hr cf mf hu hk hj
  exact ag_s a1 a5 ⟨e, m, a2, a3, a4⟩
/-- ends of a running sum of w places -/
def sw (w : Nat) (s A : Int) : Prop := A = s ∨ (-(16777216 * (w : Int)) ≤ A ∧ A ≤ 16777216 * (w : Int))
theorem sw_pl {w : Nat} {A B p q : Int} (hw : w < 8) (hA : sw w (-1152921504606846976) A) (hB : sw w 1152921504606846976 B) (hAB : A ≤ B) (lp : glo p) (gp : ge p) (hq : ghi q) (gq : ge q) (hpq : p ≤ q) :
    pl A p ≤ pl B q ∧ sw (w + 1) (-1152921504606846976) (pl A p) ∧ sw (w + 1) 1152921504606846976 (pl B q) := by
  have e1 : pl A p = (if A = -1152921504606846976 ∨ p = -1152921504606846976 then -1152921504606846976 else A + p) := by
    unfold pl
    unfold sw at hA; unfold glo at lp
    by_cases h1 : A = -1152921504606846976
    · rw [if_pos (by omega), if_pos (by omega), h1]
    · rw [if_neg (by omega)]
      by_cases h2 : p = -1152921504606846976
      · rw [if_pos (by omega), if_pos (by omega), h2]
      · rw [if_neg (by omega), if_neg (by omega)]
  have e2 : pl B q = (if B = 1152921504606846976 ∨ q = 1152921504606846976 then 1152921504606846976 else B + q) := by
    unfold pl
    unfold sw at hB; unfold ghi at hq
    by_cases h1 : B = 1152921504606846976
    · rw [if_pos (by omega), if_pos (by omega), h1]
    · rw [if_neg (by omega)]
      by_cases h2 : q = 1152921504606846976
      · rw [if_pos (by omega), if_pos (by omega), h2]
      · rw [if_neg (by omega), if_neg (by omega)]
  rw [e1, e2]
  unfold sw at *
  unfold glo ge at *
  unfold ghi at *
  split
  · split
    · refine ⟨by omega, by omega, by omega⟩
    · refine ⟨by omega, by omega, by omega⟩
  · split
    · refine ⟨by omega, by omega, by omega⟩
    · refine ⟨by omega, by omega, by omega⟩
theorem sw_lo {w : Nat} {A : Int} (hw : w ≤ 8) (h : sw w (-1152921504606846976) A) : glo A := by unfold sw at h; unfold glo; omega
theorem sw_hi {w : Nat} {A : Int} (hw : w ≤ 8) (h : sw w 1152921504606846976 A) : ghi A := by unfold sw at h; unfold ghi; omega
def sinv (w : Nat) (p : Int64 × Int64) (a : Int32) (u v : Int64) : Prop :=
  (a = 0 ∧ ¬ p.1 ≤ p.2) ∨ (a = 1 ∧ ∃ A B : Int, p = (zL A, zL B) ∧ A ≤ B ∧ sw w (-1152921504606846976) A ∧ sw w 1152921504606846976 B ∧ u = zL (ph A) ∧ v = zL (ph B))
theorem add_f {t : Nat} : cfr c (S_add c 8 t) := by
  unfold S_add
  split
  · split
    · exact be_f (by omega)
    · rw [be_e]; exact be_f (by omega)
  · rw [be_e]; exact be_f (by omega)
theorem sum_step (hm : mwd M e m) (hr : rlp e m c M) (cf : cfr c c') {w k : Nat} (hw : w < 8) (hk : k < 8) {a : Int32} {u v : Int64} (h : sinv w (c'.2.2 8) a u v) :
    sinv (w + 1) ((S_add c' 8 k).2.2 8) (if a = (0 : Int32) then (0 : Int32) else (if (z_i (M.2.1.1 k)) = (0 : Int32) then (0 : Int32) else (1 : Int32))) (F_m_plus u (M.2.1.2.1 k) (-mw_far)) (F_m_plus v (M.2.1.2.2 k) mw_far) := by
  have he := hm.2.1.2
  have hmm := hm.2.2.2
  unfold S_add
  rcases h with ⟨h1, h2⟩ | ⟨h1, A, B, h2, h3, h4, h5, h6, h7⟩
  · rw [if_pos h1, if_neg (fun q => h2 (ie_0.mp q)), be_e]
    exact Or.inl ⟨rfl, by rw [be_at]; exact e10⟩
  · have lA := sw_lo (by omega) h4
    have hB := sw_hi (by omega) h5
    rw [if_neg (show ¬ a = 0 by rw [h1]; decide), if_pos (ie_0.mpr (by rw [h2]; exact (zl_le (gd_zr (glo_gd lA)) (gd_zr (ghi_gd hB))).mpr h3))]
    have hck := cf.2.2 k hk
    rcases hr k hk with ⟨g1, g2⟩ | ⟨g1, p, q, g2, g3, g4, g5, g6, g7⟩
    · rw [if_neg (fun q => by have := ie_0.mp q; rw [hck] at this; exact g2 this), if_pos (z_i0.mpr g1), be_e]
      exact Or.inl ⟨rfl, by rw [be_at]; exact e10⟩
    · have gp := elo_ge he hmm g4
      have gq := ehi_ge he hmm g5
      have lp := elo_g he hmm g4
      have hq := ehi_g he hmm g5
      have S := sw_pl hw h4 h5 h3 lp gp hq gq g3
      rw [if_pos (ie_0.mpr (by rw [hck, g2]; exact (zl_le (gd_zr (ge_gd gp)) (gd_zr (ge_gd gq))).mpr g3)), if_neg (show ¬ z_i (M.2.1.1 k) = 0 by rw [g1]; decide), be_at, hck, g2, h2]
      dsimp only
      rw [cs_plus (gd_zr (glo_gd lA)) (gd_zr (ge_gd gp)), cs_plus (gd_zr (ghi_gd hB)) (gd_zr (ge_gd gq)), h6, h7, g6, g7]
      rw [ms_pluslo lA lp (by unfold sw at h4; unfold glo ge at *; omega), ms_plushi hB hq (by unfold sw at h5; unfold ghi ge at *; omega)]
      exact Or.inr ⟨rfl, _, _, rfl, S.1, S.2.1, S.2.2, rfl, rfl⟩
theorem sum_end (hw : cwd c e m) (hm : mwd M e m) (hr : rlp e m c M) (cf : cfr c c') {c0 : cw_C} {w x : Nat} (hw8 : w ≤ 8) (hx : x < 8) {a : Int32} {u v : Int64} (h : sinv w (c'.2.2 8) a u v) :
    lw_ag (some (F_keep c' 8 (nI x).toNatClampNeg)) (if a = (0 : Int32) then S_m_keep (mp_is M (z_t a)) (nI x) else S_m_keep (mp_is (S_m_span M u v (1 : Int64)) (z_t a)) (nI x)).1.1 (if a = (0 : Int32) then F_m_keep (mp_is M (z_t a)) (nI x) else F_m_keep (mp_is (S_m_span M u v (1 : Int64)) (z_t a)) (nI x)) ∧
    rel (lw_c (some (F_keep c' 8 (nI x).toNatClampNeg)) c0 (S_keep c' 8 (nI x).toNatClampNeg)) (if a = (0 : Int32) then S_m_keep (mp_is M (z_t a)) (nI x) else S_m_keep (mp_is (S_m_span M u v (1 : Int64)) (z_t a)) (nI x)) := by
  have hc : (nI x).toNatClampNeg = x := nI_clamp (by omega)
  rcases h with ⟨h1, h2⟩ | ⟨h1, A, B, h2, h3, h4, h5, h6, h7⟩
  · rw [if_pos h1, if_pos h1]
    exact keep_ag hw hm hr cf (M' := mp_is M (z_t a)) ⟨rfl, rfl⟩ (by omega) (kps_e (by rw [(mi_at M (z_t a)).2.2.1, h1]; exact z_tf) h2) hx hc
  · have h0 : ¬ a = 0 := by rw [h1]; decide
    rw [if_neg h0, if_neg h0]
    have lA := sw_lo hw8 h4
    have hB := sw_hi hw8 h5
    have hS := span_ok (M := M) (d := 1) hm h6 h7 zl_1 lA hB (by omega) (by omega)
    rw [dv_1, dv_1, Int.neg_neg] at hS
    obtain ⟨i1, i2, i3, i4, i5⟩ := mi_at (S_m_span M u v (1 : Int64)) (z_t a)
    refine keep_ag hw hm hr cf (M' := mp_is (S_m_span M u v 1) (z_t a)) ⟨i1.trans hS.1.1, i2.trans hS.1.2⟩ (by omega) ?_ hx hc
    rw [i3, i4, i5]
    exact Or.inr ⟨by rw [h1]; exact z_tt, A, B, h2, h3, lA, hB, hS.2.2.1, hS.2.2.2⟩
theorem sum_loop (hw : cwd c e m) (hm : mwd M e m) (hr : rlp e m c M) {c0 : cw_C} {x f n : Nat} (hx : x < 8) (hfn : f + n ≤ 8) :
    ∀ (t k : Nat) (c' : cw_C) (a : Int32) (u v : Int64), cfr c c' → f ≤ k → k ≤ f + n → f + n < k + t → sinv (k - f) (c'.2.2 8) a u v →
      lw_ag (LF_sum (nI x) (nI f) (nI n) t c' (nI k)) (LS_m_sum (nI x) (nI f) (nI n) t M a u v (nI k)).1.1 (LF_m_sum (nI x) (nI f) (nI n) t M a u v (nI k)) ∧
      rel (lw_c (LF_sum (nI x) (nI f) (nI n) t c' (nI k)) c0 (LS_sum (nI x) (nI f) (nI n) t c' (nI k))) (LS_m_sum (nI x) (nI f) (nI n) t M a u v (nI k)) := by
  intro t
  induction t with
  | zero => intro k c' a u v _ _ h1 h2; omega
  | succ t ih =>
    intro k c' a u v cf h0 h1 h2 hI
    have hs : nI f + nI n = nI (f + n) := nI_add f n
    rw [LF_sum, LS_sum, LF_m_sum, LS_m_sum, hs]
    by_cases hk : k = f + n
    · have hc : nI (f + n) ≤ nI k := by rw [hk]; exact (nI_leI (by omega) (by omega)).mpr (Nat.le_refl _)
      rw [if_pos hc, if_pos hc, if_pos hc, if_pos hc]
      exact sum_end hw hm hr cf (by omega) hx hI
    · have hc : ¬ nI (f + n) ≤ nI k := fun q => absurd ((nI_leI (by omega) (by omega)).mp q) (by omega)
      rw [if_neg hc, if_neg hc, if_neg hc, if_neg hc, lw_ik1, show (nI k).toNatClampNeg = k from nI_clamp (by omega)]
      refine ih (k + 1) (S_add c' 8 k) _ _ _ (cfr_tr cf add_f) (by omega) (by omega) (by omega) ?_
      rw [show k + 1 - f = (k - f) + 1 by omega]
      exact sum_step hm hr cf (by omega) (by omega) hI
theorem nI_l8 {f : Nat} (hf : f < 8) : (8 : Int32) - nI f = nI (8 - f) := by
  have : ∀ f, f < 8 → (8 : Int32) - nI f = nI (8 - f) := by decide +kernel
  exact this f hf
theorem ok_sum (h : rel c M) (x y z : Int32) : lw_ag (F_sum c x y z) (S_m_sum M x y z).1.1 (F_m_sum M x y z) ∧ rel (lw_c (F_sum c x y z) c (S_sum c x y z)) (S_m_sum M x y z) := by
  unfold F_sum S_sum S_m_sum F_m_sum
  rcases ip_c x with ⟨h1, h2⟩ | ⟨h1, h2, x', hx, rfl⟩
  · rw [if_pos h1, if_pos h1, if_pos h2, if_pos h2]; exact ag_n h
  rw [h1, h2, if_neg n1_0, if_neg n1_0, if_neg n1_0, if_neg n1_0]
  rcases ip_c y with ⟨g1, g2⟩ | ⟨g1, g2, f, hf, rfl⟩
  · rw [if_pos g1, if_pos g1, if_pos g2, if_pos g2]; exact ag_n h
  rw [g1, g2, if_neg n1_0, if_neg n1_0, if_neg n1_0, if_neg n1_0, nI_l8 hf]
  rcases pk_ix z (n := 9) (by decide) with hz | hz | ⟨n, hn, rfl⟩
  · have hz1 : z < 1 := Int32.lt_trans hz (by decide)
    rw [if_pos hz1, if_pos hz1, if_pos hz1, if_pos hz1]; exact ag_n h
  · by_cases hz1 : z < 1
    · rw [if_pos hz1, if_pos hz1, if_pos hz1, if_pos hz1]; exact ag_n h
    · have hz2 : ¬ z ≤ nI (8 - f) := by
        intro q
        have q2 := Int32.le_trans (show nI 9 ≤ z from hz) q
        have := (nI_leI (by omega) (by omega)).mp q2
        omega
      rw [if_neg hz1, if_neg hz1, if_neg hz1, if_neg hz1, if_neg hz2, if_neg hz2, if_neg hz2, if_neg hz2]; exact ag_n h
  · by_cases hz1 : nI n < 1
    · rw [if_pos hz1, if_pos hz1, if_pos hz1, if_pos hz1]; exact ag_n h
    · rw [if_neg hz1, if_neg hz1, if_neg hz1, if_neg hz1]
      by_cases hz2 : nI n ≤ nI (8 - f)
      · rw [if_pos hz2, if_pos hz2, if_pos hz2, if_pos hz2]
        have hle := (nI_leI (by omega) (by omega)).mp hz2
        obtain ⟨e, m, w1, w2, w3⟩ := h
        refine sum_loop w1 (th_mwd (v := 0) w2) (th_rlp (v := 0) w3) hx (show f + n ≤ 8 by omega) 9 f _ 1 0 0 (be_f (by omega)) (Nat.le_refl _) (by omega) (by omega) ?_
        rw [be_at, Nat.sub_self]
        exact Or.inr ⟨rfl, 0, 0, rfl, by omega, by unfold sw; omega, by unfold sw; omega, rfl, rfl⟩
      · rw [if_neg hz2, if_neg hz2, if_neg hz2, if_neg hz2]; exact ag_n h
-- one or two places
theorem two_all (hw : cwd c e m) (hm : mwd M e m) (hr : rlp e m c M) (hi : i < 8) (hj : j < 8) {k : Nat} (hk : k < 8) :
    (k = 3 → twok e m c M (S_reckonTwo c (nI k) i j) (S_m_divide M (nI i) (nI j))) ∧ (¬ k = 3 → twok e m c M (S_reckonTwo c (nI k) i j) (S_m_two M (nI k) (nI i) (nI j))) := by
  have h8 : k = 0 ∨ k = 1 ∨ k = 2 ∨ k = 3 ∨ k = 4 ∨ k = 5 ∨ k = 6 ∨ k = 7 := by omega
  rcases h8 with rfl | rfl | rfl | rfl | rfl | rfl | rfl | rfl
  · rw [show nI 0 = (0 : Int32) from rfl]; exact ⟨fun h => by omega, fun _ => two_0 hw hm hr hi hj⟩
  · rw [show nI 1 = (1 : Int32) from rfl]; exact ⟨fun h => by omega, fun _ => two_1 hw hm hr hi hj⟩
  · rw [show nI 2 = (2 : Int32) from rfl]; exact ⟨fun h => by omega, fun _ => two_2 hw hm hr hi hj⟩
  · rw [show nI 3 = (3 : Int32) from rfl]; exact ⟨fun _ => two_3 hw hm hr hi hj, fun h => absurd rfl h⟩
  · rw [show nI 4 = (4 : Int32) from rfl]; exact ⟨fun h => by omega, fun _ => two_4 hw hm hr hi hj⟩
  · rw [show nI 5 = (5 : Int32) from rfl]; exact ⟨fun h => by omega, fun _ => two_5 hw hm hr hi hj⟩
  · rw [show nI 6 = (6 : Int32) from rfl]; exact ⟨fun h => by omega, fun _ => two_6 hw hm hr hi hj⟩
  · rw [show nI 7 = (7 : Int32) from rfl]; exact ⟨fun h => by omega, fun _ => two_7 hw hm hr hi hj⟩
theorem one_all (hw : cwd c e m) (hm : mwd M e m) (hr : rlp e m c M) (hi : i < 8) {k : Nat} (h0 : 8 ≤ k) (hk : k < 12) : twok e m c M (S_reckonOne c (nI k) i) (S_m_alone M (nI k) (nI i)) := by
  have h8 : k = 8 ∨ k = 9 ∨ k = 10 ∨ k = 11 := by omega
  rcases h8 with rfl | rfl | rfl | rfl
  · exact one_8 hw hm hr hi
  · exact one_9 hw hm hr hi
  · exact one_10 hw hm hr hi
  · exact one_11 hw hm hr hi
theorem ok_does (h : rel c M) (x y z v : Int32) : lw_ag (F_does c x y z v) (S_m_does M x y z v).1.1 (F_m_does M x y z v) ∧ rel (lw_c (F_does c x y z v) c (S_does c x y z v)) (S_m_does M x y z v) := by
  unfold F_does S_does S_m_does F_m_does
  rcases pk_ix x (n := 12) (by decide) with hx | hx | ⟨k, hk, rfl⟩
  · rw [if_pos hx, if_pos hx, if_pos hx, if_pos hx]; exact ag_n h
  · by_cases h0 : x < 0
    · rw [if_pos h0, if_pos h0, if_pos h0, if_pos h0]; exact ag_n h
    · have h1 : ¬ x ≤ 11 := fun q => by
        have := (nI_leI (a := 12) (b := 11) (by omega) (by omega)).mp (Int32.le_trans (show nI 12 ≤ x from hx) q)
        omega
      have h2 : (11 : Int32) < x := Int32.not_le.mp h1
      rw [if_neg h0, if_neg h0, if_neg h0, if_neg h0, if_neg h1, if_neg h1, if_pos h2, if_pos h2]; exact ag_n h
  have k0 : ¬ nI k < 0 := fun q => absurd ((nI_ltI (b := 0) (by omega) (by omega)).mp q) (by omega)
  have k1 : nI k ≤ 11 := (nI_leI (b := 11) (by omega) (by omega)).mpr (by omega)
  have k2 : ¬ (11 : Int32) < nI k := fun q => absurd ((nI_ltI (a := 11) (by omega) (by omega)).mp q) (by omega)
  rw [if_neg k0, if_neg k0, if_neg k0, if_neg k0, if_pos k1, if_pos k1, if_neg k2, if_neg k2]
  rcases ip_c y with ⟨g1, g2⟩ | ⟨g1, g2, y', hy, rfl⟩
  · rw [if_pos g1, if_pos g1, if_pos g2, if_pos g2]; exact ag_n h
  rw [g1, g2, if_neg n1_0, if_neg n1_0, if_neg n1_0, if_neg n1_0]
  rcases ip_c z with ⟨g1, g2⟩ | ⟨g1, g2, i, hi, rfl⟩
  · rw [if_pos g1, if_pos g1, if_pos g2, if_pos g2]; exact ag_n h
  rw [g1, g2, if_neg n1_0, if_neg n1_0, if_neg n1_0, if_neg n1_0]
  have ni : (nI i).toNatClampNeg = i := nI_clamp (by omega)
  have ny : (nI y').toNatClampNeg = y' := nI_clamp (by omega)
  by_cases h8 : 8 ≤ k
  · have q1 : ¬ nI k < 8 := fun q => absurd ((nI_ltI (b := 8) (by omega) (by omega)).mp q) (by omega)
    have q2 : (8 : Int32) ≤ nI k := (nI_leI (a := 8) (by omega) (by omega)).mpr h8
    rw [if_neg q1, if_neg n1_0, if_neg n1_0, if_pos q2, if_pos q2, ni]
    obtain ⟨e, m, w1, w2, w3⟩ := h
    obtain ⟨t1, t2, t3⟩ := one_all (M := mp_thrown M 0) w1 (th_mwd w2) (th_rlp w3) hi h8 hk
    exact keep_ag w1 (th_mwd (v := 0) w2) (th_rlp (v := 0) w3) t1 t2 (by omega) t3 hy ny
  · have q1 : nI k < 8 := (nI_ltI (b := 8) (by omega) (by omega)).mpr (by omega)
    have q2 : ¬ (8 : Int32) ≤ nI k := fun q => absurd ((nI_leI (a := 8) (by omega) (by omega)).mp q) (by omega)
    rw [if_pos q1, if_pos (show (0 : Int32) = 0 from rfl), if_pos (show (0 : Int32) = 0 from rfl), if_neg q2, if_neg q2]
    rcases ip_c v with ⟨g1, g2⟩ | ⟨g1, g2, j, hj, rfl⟩
    · rw [if_pos g1, if_pos g1, if_pos g2, if_pos g2]; exact ag_n h
    have nj : (nI j).toNatClampNeg = j := nI_clamp (by omega)
    rw [g1, g2, if_neg n1_0, if_neg n1_0, if_neg n1_0, if_neg n1_0, ni, nj]
    obtain ⟨e, m, w1, w2, w3⟩ := h
    have t := two_all (M := mp_thrown M 0) w1 (th_mwd w2) (th_rlp w3) hi hj (show k < 8 by omega)
    by_cases h3 : k = 3
    · have q3 : nI k = (3 : Int32) := by rw [h3]; rfl
      rw [if_pos q3, if_pos q3]
      obtain ⟨t1, t2, t3⟩ := t.1 h3
      exact keep_ag w1 (th_mwd (v := 0) w2) (th_rlp (v := 0) w3) t1 t2 (by omega) t3 hy ny
    · have q3 : ¬ nI k = (3 : Int32) := by
        intro q
        have := (nI_leI (b := 3) (by omega) (by omega)).mp (show nI k ≤ nI 3 by rw [q]; decide)
        have := (nI_leI (a := 3) (by omega) (by omega)).mp (show nI 3 ≤ nI k by rw [q]; decide)
        omega
      rw [if_neg q3, if_neg q3]
      obtain ⟨t1, t2, t3⟩ := t.2 h3
      exact keep_ag w1 (th_mwd (v := 0) w2) (th_rlp (v := 0) w3) t1 t2 (by omega) t3 hy ny
-- both parts of a quotient
theorem prt_k {B : Prop} [Decidable B] (D : mw_C) : mfr D (mp_to (mp_from (mp_is D (z_t (if B then (0 : Int32) else (if (z_i (D.2.2.2.1)) = (0 : Int32) then (0 : Int32) else (1 : Int32))))) (mp_is D (z_t (if B then (0 : Int32) else (if (z_i (D.2.2.2.1)) = (0 : Int32) then (0 : Int32) else (1 : Int32))))).2.2.2.2.1) (mp_from (mp_is D (z_t (if B then (0 : Int32) else (if (z_i (D.2.2.2.1)) = (0 : Int32) then (0 : Int32) else (1 : Int32))))) (mp_is D (z_t (if B then (0 : Int32) else (if (z_i (D.2.2.2.1)) = (0 : Int32) then (0 : Int32) else (1 : Int32))))).2.2.2.2.1).2.2.2.2.2) ∧ (mp_to (mp_from (mp_is D (z_t (if B then (0 : Int32) else (if (z_i (D.2.2.2.1)) = (0 : Int32) then (0 : Int32) else (1 : Int32))))) (mp_is D (z_t (if B then (0 : Int32) else (if (z_i (D.2.2.2.1)) = (0 : Int32) then (0 : Int32) else (1 : Int32))))).2.2.2.2.1) (mp_from (mp_is D (z_t (if B then (0 : Int32) else (if (z_i (D.2.2.2.1)) = (0 : Int32) then (0 : Int32) else (1 : Int32))))) (mp_is D (z_t (if B then (0 : Int32) else (if (z_i (D.2.2.2.1)) = (0 : Int32) then (0 : Int32) else (1 : Int32))))).2.2.2.2.1).2.2.2.2.2).2.2.1 = ((if B then false else D.2.2.2.1), D.2.2.2.2.1, D.2.2.2.2.2) := by
  refine ⟨⟨rfl, rfl⟩, ?_⟩
  show (z_t (if B then (0 : Int32) else (if (z_i (D.2.2.2.1)) = (0 : Int32) then (0 : Int32) else (1 : Int32))), D.2.2.2.2.1, D.2.2.2.2.2) = _
  have : z_t (if B then (0 : Int32) else (if (z_i (D.2.2.2.1)) = (0 : Int32) then (0 : Int32) else (1 : Int32))) = (if B then false else D.2.2.2.1) := by
    by_cases hB : B
    · rw [if_pos hB, if_pos hB]; exact z_tf
    · rw [if_neg hB, if_neg hB]
      cases D.2.2.2.1 <;> decide
  rw [this]
end SUM
