-- rounding of whole numbers to m + 1 binary places
def xb (m n : Nat) : Nat := n.log2 - m
def rd (m n : Nat) : Nat := n / 2 ^ xb m n * 2 ^ xb m n
def ru (m n : Nat) : Nat := (n + 2 ^ xb m n - 1) / 2 ^ xb m n * 2 ^ xb m n
def mo (e m : Nat) : Nat := (2 * 2 ^ m - 1) * 2 ^ (2 ^ e - 3)
theorem p2_pos (k : Nat) : 0 < 2 ^ k := Nat.two_pow_pos k
theorem p2_le {a b : Nat} (h : a ≤ b) : 2 ^ a ≤ 2 ^ b := Nat.pow_le_pow_right (by decide) h
theorem xb_lt (m n : Nat) : n < 2 ^ (m + 1 + xb m n) := by
  by_cases h : n = 0
  · subst h; exact p2_pos _
  · refine (Nat.log2_lt h).mp ?_
    unfold xb; omega
theorem xb_ge {m n : Nat} (h : 0 < xb m n) : 2 ^ (m + xb m n) ≤ n := by
  have h0 : n ≠ 0 := by
    intro h0; subst h0
    unfold xb at h
    rw [Nat.log2_zero] at h
    omega
  have h1 : m + xb m n = n.log2 := by unfold xb at h ⊢; omega
  rw [h1]
  exact Nat.log2_self_le h0
theorem xb_un {m n s : Nat} (h1 : n < 2 ^ (m + 1 + s)) (h2 : s = 0 ∨ 2 ^ (m + s) ≤ n) : xb m n = s := by
  rcases Nat.lt_trichotomy (xb m n) s with h | h | h
  · rcases h2 with h2 | h2
    · omega
    · have a := xb_lt m n
      have b : 2 ^ (m + 1 + xb m n) ≤ 2 ^ (m + s) := p2_le (by omega)
      omega
  · exact h
  · have a := xb_ge (m := m) (n := n) (by omega)
    have b : 2 ^ (m + 1 + s) ≤ 2 ^ (m + xb m n) := p2_le (by omega)
    omega
theorem rd_le (m n : Nat) : rd m n ≤ n := Nat.div_mul_le_self _ _
theorem rd_lt (m n : Nat) : n < rd m n + 2 ^ xb m n := by
  unfold rd
  have h := Nat.div_add_mod n (2 ^ xb m n)
  have h2 := Nat.mod_lt n (p2_pos (xb m n))
  rw [Nat.mul_comm] at h
  omega
theorem rep_of {m k s : Nat} (h1 : k < 2 ^ (m + 1)) (h2 : s = 0 ∨ 2 ^ m ≤ k) : xb m (k * 2 ^ s) = s ∧ rd m (k * 2 ^ s) = k * 2 ^ s := by
  have hx : xb m (k * 2 ^ s) = s := by
    refine xb_un ?_ ?_
    · rw [Nat.pow_add]
      exact (Nat.mul_lt_mul_right (p2_pos s)).mpr h1
    · rcases h2 with h2 | h2
      · exact Or.inl h2
      · right
        rw [Nat.pow_add]
        exact Nat.mul_le_mul_right _ h2
  refine ⟨hx, ?_⟩
  unfold rd
  rw [hx, Nat.mul_div_cancel _ (p2_pos s)]
theorem rep_of' {m k s : Nat} (h1 : k ≤ 2 ^ (m + 1)) (h2 : s = 0 ∨ 2 ^ m ≤ k) : rd m (k * 2 ^ s) = k * 2 ^ s := by
  by_cases h : k < 2 ^ (m + 1)
  · exact (rep_of h h2).2
  · have hk : k = 2 ^ (m + 1) := by omega
    have e : k * 2 ^ s = 2 ^ m * 2 ^ (s + 1) := by rw [hk, Nat.pow_succ, Nat.pow_succ, Nat.mul_assoc, Nat.mul_comm 2, ← Nat.mul_assoc]
    rw [e]
    exact (rep_of (by rw [Nat.pow_succ]; have := p2_pos m; omega) (Or.inr (Nat.le_refl _))).2
theorem xb_q (m n : Nat) : n / 2 ^ xb m n < 2 ^ (m + 1) := by
  refine Nat.div_lt_of_lt_mul ?_
  rw [Nat.mul_comm, ← Nat.pow_add]
  exact xb_lt m n
theorem xb_q2 (m n : Nat) : xb m n = 0 ∨ 2 ^ m ≤ n / 2 ^ xb m n := by
  by_cases h : xb m n = 0
  · exact Or.inl h
  · right
    rw [Nat.le_div_iff_mul_le (p2_pos _), ← Nat.pow_add]
    exact xb_ge (by omega)
theorem rd_rep (m n : Nat) : rd m (rd m n) = rd m n := (rep_of (xb_q m n) (xb_q2 m n)).2
/-- what stands in the grid below b stands below b rounded down -/
theorem rd_max {m r b : Nat} (hr : rd m r = r) (h : r ≤ b) : r ≤ rd m b := by
  by_cases hx : xb m b ≤ xb m r
  · have h1 : ∃ j, r = j * 2 ^ xb m b := by
      refine ⟨r / 2 ^ xb m r * 2 ^ (xb m r - xb m b), ?_⟩
      rw [Nat.mul_assoc, ← Nat.pow_add, Nat.sub_add_cancel hx]
      exact hr.symm
    obtain ⟨j, hj⟩ := h1
    rw [hj]
    unfold rd
    refine Nat.mul_le_mul_right _ ?_
    rw [Nat.le_div_iff_mul_le (p2_pos _), ← hj]
    exact h
  · have h1 := xb_lt m r
    have h2 : 2 ^ (m + 1 + xb m r) ≤ 2 ^ (m + xb m b) := p2_le (by omega)
    have h3 : 2 ^ (m + xb m b) ≤ rd m b := by
      rcases xb_q2 m b with h4 | h4
      · omega
      · unfold rd
        rw [Nat.pow_add]
        exact Nat.mul_le_mul_right _ h4
    omega
theorem rd_mono {m a b : Nat} (h : a ≤ b) : rd m a ≤ rd m b := rd_max (rd_rep m a) (Nat.le_trans (rd_le m a) h)
/-- what stands in the grid above q stands at least one place above q rounded down -/
theorem rd_next {m q u : Nat} (hu : rd m u = u) (h : q < u) : rd m q + 2 ^ xb m q ≤ u := by
  by_cases hx : xb m q ≤ xb m u
  · have h1 : ∃ j, u = j * 2 ^ xb m q := by
      refine ⟨u / 2 ^ xb m u * 2 ^ (xb m u - xb m q), ?_⟩
      rw [Nat.mul_assoc, ← Nat.pow_add, Nat.sub_add_cancel hx]
      exact hu.symm
    obtain ⟨j, hj⟩ := h1
    unfold rd
    have h2 : q / 2 ^ xb m q < j := by
      refine Nat.div_lt_of_lt_mul ?_
      rw [Nat.mul_comm, ← hj]
      exact h
    have h3 : (q / 2 ^ xb m q + 1) * 2 ^ xb m q ≤ j * 2 ^ xb m q := Nat.mul_le_mul_right _ h2
    rw [Nat.succ_mul, ← hj] at h3
    exact h3
  · have h1 := xb_lt m u
    have h2 : 2 ^ (m + 1 + xb m u) ≤ 2 ^ (m + xb m q) := p2_le (by omega)
    have h3 := xb_ge (m := m) (n := q) (by omega)
    omega
theorem ru_eq (m n : Nat) : ru m n = if rd m n = n then n else rd m n + 2 ^ xb m n := by
  unfold ru rd
  have hp := p2_pos (xb m n)
  generalize 2 ^ xb m n = P at hp ⊢
  have h := Nat.div_add_mod n P
  have h2 := Nat.mod_lt n hp
  rw [Nat.mul_comm] at h
  generalize n / P = k at h ⊢
  generalize n % P = r at h h2
  subst h
  by_cases h3 : r = 0
  · subst h3
    rw [if_pos (by omega), show k * P + 0 + P - 1 = (P - 1) + P * k by rw [Nat.mul_comm k]; omega, Nat.add_mul_div_left _ _ hp, Nat.div_eq_of_lt (by omega)]
    simp
  · rw [if_neg (by omega), show k * P + r + P - 1 = (r - 1) + P * (k + 1) by rw [Nat.mul_add, Nat.mul_comm k]; omega, Nat.add_mul_div_left _ _ hp, Nat.div_eq_of_lt (by omega), Nat.zero_add, Nat.succ_mul]
theorem ru_rep (m n : Nat) : rd m (ru m n) = ru m n := by
  rw [ru_eq]
  split
  · assumption
  · have e : rd m n + 2 ^ xb m n = (n / 2 ^ xb m n + 1) * 2 ^ xb m n := by rw [Nat.succ_mul]; rfl
    rw [e]
    refine rep_of' ?_ ?_
    · exact xb_q m n
    · rcases xb_q2 m n with h | h
      · exact Or.inl h
      · exact Or.inr (by omega)
theorem ru_ge (m n : Nat) : n ≤ ru m n := by
  rw [ru_eq]
  split
  · exact Nat.le_refl _
  · exact Nat.le_of_lt (rd_lt m n)
theorem ru_min {m r b : Nat} (hr : rd m r = r) (h : b ≤ r) : ru m b ≤ r := by
  rw [ru_eq]
  split
  · exact h
  · rename_i h1
    refine rd_next hr (Nat.lt_of_le_of_ne h ?_)
    intro e
    exact h1 (e ▸ hr)
theorem ru_mono {m a b : Nat} (h : a ≤ b) : ru m a ≤ ru m b := ru_min (ru_rep m b) (Nat.le_trans h (ru_ge m b))
theorem ru_self {m n : Nat} (h : rd m n = n) : ru m n = n := by rw [ru_eq, if_pos h]
theorem ru_succ (m q : Nat) : ru m (q + 1) = rd m q + 2 ^ xb m q := by
  refine Nat.le_antisymm (ru_min ?_ (rd_lt m q)) (rd_next (ru_rep m _) (ru_ge m (q + 1)))
  have e : rd m q + 2 ^ xb m q = (q / 2 ^ xb m q + 1) * 2 ^ xb m q := by rw [Nat.succ_mul]; rfl
  rw [e]
  refine rep_of' (xb_q m q) ?_
  rcases xb_q2 m q with h | h
  · exact Or.inl h
  · exact Or.inr (by omega)
theorem mo_rep (e m : Nat) : rd m (mo e m) = mo e m := by
  refine (rep_of ?_ (Or.inr ?_)).2
  · rw [Nat.pow_succ]
    have := p2_pos m
    omega
  · have := p2_pos m
    omega
theorem mo_lt : ∀ e m : Nat, e ≤ 4 → m ≤ 10 → mo e m < 16777216 := by
  have h : ∀ e, e < 5 → ∀ m, m < 11 → mo e m < 16777216 := by decide +kernel
  exact fun e m he hm => h e (by omega) m (by omega)
/-- the size rounded to the format, downwards and upwards -/
def dn (e m n : Nat) : Nat := if n ≤ mo e m then rd m n else mo e m
def up (e m n : Nat) : Nat := if n ≤ mo e m then ru m n else 1152921504606846976
theorem dn_le (e m n : Nat) : dn e m n ≤ n := by
  unfold dn
  split
  · exact rd_le m n
  · omega
theorem dn_mo (e m n : Nat) : dn e m n ≤ mo e m := by
  unfold dn
  split
  · exact Nat.le_trans (rd_le m n) (by assumption)
  · exact Nat.le_refl _
theorem dn_rep (e m n : Nat) : rd m (dn e m n) = dn e m n := by
  unfold dn
  split
  · exact rd_rep m n
  · exact mo_rep e m
theorem dn_self {e m n : Nat} (h : rd m n = n) (h2 : n ≤ mo e m) : dn e m n = n := by unfold dn; rw [if_pos h2, h]
theorem up_self {e m n : Nat} (h : rd m n = n) (h2 : n ≤ mo e m) : up e m n = n := by unfold up; rw [if_pos h2, ru_self h]
theorem up_le {e m n : Nat} (h : n ≤ mo e m) : up e m n ≤ mo e m := by
  unfold up
  rw [if_pos h]
  exact ru_min (mo_rep e m) h
theorem up_rep {e m n : Nat} (h : n ≤ mo e m) : rd m (up e m n) = up e m n := by
  unfold up
  rw [if_pos h]
  exact ru_rep m n
theorem up_ge {e m n : Nat} (h : n ≤ 1152921504606846976) : n ≤ up e m n := by
  unfold up
  split
  · exact ru_ge m n
  · exact h
theorem dn_mono {e m a b : Nat} (h : a ≤ b) : dn e m a ≤ dn e m b := by
  by_cases hb : b ≤ mo e m
  · unfold dn
    rw [if_pos hb, if_pos (Nat.le_trans h hb)]
    exact rd_mono h
  · have h1 := dn_mo e m a
    have h2 : dn e m b = mo e m := by unfold dn; rw [if_neg hb]
    omega
theorem up_mono {e m a b : Nat} (he : e ≤ 4) (hm : m ≤ 10) (h : a ≤ b) : up e m a ≤ up e m b := by
  by_cases hb : b ≤ mo e m
  · unfold up
    rw [if_pos hb, if_pos (Nat.le_trans h hb)]
    exact ru_mono h
  · have h2 : up e m b = 1152921504606846976 := by unfold up; rw [if_neg hb]
    rw [h2]
    by_cases ha : a ≤ mo e m
    · have := up_le ha
      have := mo_lt e m he hm
      omega
    · unfold up
      rw [if_neg ha]
      exact Nat.le_refl _
/-- the reference's way: round down, add a place, then look at the largest -/
theorem dn_alt (e m q : Nat) : (if rd m q ≤ mo e m then rd m q else mo e m) = dn e m q := by
  unfold dn
  by_cases h : q ≤ mo e m
  · rw [if_pos h, if_pos (Nat.le_trans (rd_le m q) h)]
  · rw [if_neg h]
    have h1 := rd_max (mo_rep e m) (show mo e m ≤ q by omega)
    split
    · omega
    · rfl
theorem up_alt0 (e m q : Nat) : (if ru m q ≤ mo e m then ru m q else 1152921504606846976) = up e m q := by
  unfold up
  by_cases h : q ≤ mo e m
  · rw [if_pos h, if_pos (ru_min (mo_rep e m) h)]
  · rw [if_neg h, if_neg (by have := ru_ge m q; omega)]
