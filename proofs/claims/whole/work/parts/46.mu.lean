/-! Multiples; the base point's order; every point's order. -/
theorem on_ad {P Q : pt} (hP : ec_on P) (hQ : ec_on Q) : ec_on (ad P Q) := ec_on_ad fF hP hQ
theorem on_mu {P : pt} (hP : ec_on P) (k : Nat) : ec_on (mu P k) := ec_on_n fF hP k
theorem on_none : ec_on (none : pt) := fun p h => by cases h
theorem mu_add {P : pt} (hP : ec_on P) (a b : Nat) : ad (mu P a) (mu P b) = mu P (a + b) := ec_n_add fF hP a b
theorem mu_mul {P : pt} (hP : ec_on P) (a b : Nat) : mu (mu P a) b = mu P (a * b) := ec_n_mul fF hP a b
theorem mu_1 (P : pt) : mu P 1 = P := ec_n_1 P
theorem mu_0 (P : pt) : mu P 0 = none := rfl
theorem mu_loop {P : pt} (hP : ec_on P) {k : Nat} (hk : k < 1073741824) : ∀ j f : Nat, j ≤ 30 → j < f → ∃ x, f_C_multiple_7 (li k) (cC P) f (nI j + (-1)) (cC (mu P (k / 2 ^ j))) = some (x, cC (mu P k)) := by
  intro j
  induction j with
  | zero =>
    intro f hj hf
    obtain ⟨f, rfl⟩ : ∃ f', f = f' + 1 := ⟨f - 1, by omega⟩
    rw [f_C_multiple_7, if_pos nI_m1]
    exact ⟨_, by rw [Nat.pow_zero, Nat.div_one]⟩
  | succ i ih =>
    intro f hj hf
    obtain ⟨f, rfl⟩ : ∃ f', f = f' + 1 := ⟨f - 1, by omega⟩
    rw [f_C_multiple_7, nI_dec, if_neg (nI_pos (by omega)), s_C_sum (on_mu hP _) (on_mu hP _), li_bit (by omega) (by omega)]
    have hs := bit_step k i
    generalize k / 2 ^ (i + 1) = q at hs ⊢
    rw [mu_add hP]
    simp only [ob]
    by_cases hb : k / 2 ^ i % 2 = 1
    · have c1 : lg_cmp (li ((k / 2 ^ i % 2 : Nat) : Int)) 1 = 0 := by rw [l_1]; exact (lc_eq (by omega) (by omega) (by omega) (by omega)).mpr (by omega)
      rw [if_pos c1]
      have h9 : f_C_sum (cC (mu P (q + q))) (cC P) = some (cC (mu P (k / 2 ^ i))) := by
        rw [s_C_sum (on_mu hP _) hP]
        have h8 := mu_add hP (q + q) 1
        rw [mu_1] at h8
        rw [h8, show q + q + 1 = k / 2 ^ i by omega]
      rw [h9]
      simp only [ob]
      exact ih f (by omega) (by omega)
    · have c1 : ¬ lg_cmp (li ((k / 2 ^ i % 2 : Nat) : Int)) 1 = 0 := by rw [l_1]; exact fun h => absurd ((lc_eq (by omega) (by omega) (by omega) (by omega)).mp h) (by omega)
      rw [if_neg c1, show q + q = k / 2 ^ i by omega]
      simp only [ob]
      exact ih f (by omega) (by omega)
theorem s_C_multiple {P : pt} (hP : ec_on P) {k : Nat} (hk : k < 1073741824) : f_C_multiple (li k) (cC P) = some (cC (mu P k)) := by
  unfold f_C_multiple
  obtain ⟨x, h⟩ := mu_loop hP hk 30 64 (by omega) (by omega)
  have e1 : nI 30 + (-1) = 29 := by decide
  have e2 : cC (mu P (k / 2 ^ 30)) = 0 := by rw [Nat.div_eq_of_lt (show k < 2 ^ 30 by omega), mu_0]; rfl
  rw [e1, e2] at h
  rw [h, ob]
theorem ti_loop : ∀ (j f e : Nat) (Q S : pt), ec_on Q → ec_on S → e < 2 ^ j → j ≤ 62 → j < f → ∃ x y, f_M_times_11 f (li e) (cR Q) (cR S) = some (x, y, cR (ad S (mu Q e))) := by
  intro j
  have fin : ∀ (f : Nat) (Q S : pt), 0 < f → ∃ x y, f_M_times_11 f (li ((0 : Nat) : Int)) (cR Q) (cR S) = some (x, y, cR (ad S (mu Q 0))) := by
    intro f Q S hf
    obtain ⟨f, rfl⟩ : ∃ f', f = f' + 1 := ⟨f - 1, by omega⟩
    have c1 : lg_cmp (li ((0 : Nat) : Int)) 0 ≤ 0 := by rw [l_0]; exact (lc_le (by omega) (by omega) (by omega) (by omega)).mpr (by omega)
    rw [f_M_times_11, if_pos c1, mu_0, show ad S none = S from eo_none iv S]
    exact ⟨_, _, rfl⟩
  induction j with
  | zero =>
    intro f e Q S hQ hS he hj hf
    have he0 : e = 0 := by simpa using he
    subst he0
    exact fin f Q S (by omega)
  | succ j ih =>
    intro f e Q S hQ hS he hj hf
    by_cases h0 : e = 0
    · subst h0
      exact fin f Q S (by omega)
    obtain ⟨f, rfl⟩ : ∃ f', f = f' + 1 := ⟨f - 1, by omega⟩
    have hp : 2 ^ (j + 1) ≤ 2 ^ 62 := Nat.pow_le_pow_right (by decide) hj
    have he62 : e < 4611686018427387904 := Nat.lt_of_lt_of_le he hp
    have c1 : ¬ lg_cmp (li (e : Int)) 0 ≤ 0 := by rw [l_0]; exact fun h => absurd ((lc_le (by omega) (by omega) (by omega) (by omega)).mp h) (by omega)
    have e2 : li (e : Int) - li e / 2 * 2 = li ((e : Int) % 2) := by rw [l_2]; exact li_remp (by omega) (by omega) (by omega) (by omega)
    have e3 : li (e : Int) / 2 = li ((e / 2 : Nat) : Int) := by rw [l_2, li_divp (by omega) (by omega) (by omega) (by omega), Int.natCast_ediv]; rfl
    have he2 : e / 2 < 2 ^ j := by rw [Nat.pow_succ] at he; omega
    have h2 : ad Q Q = mu Q 2 := by have := mu_add hQ 1 1; rw [mu_1] at this; exact this
    rw [f_M_times_11, if_neg c1, e2, e3, s_M_sum, s_M_sum]
    by_cases hb : e % 2 = 1
    · have c2 : lg_cmp (li ((e : Int) % 2)) 1 = 0 := by rw [l_1]; exact (lc_eq (by omega) (by omega) (by omega) (by omega)).mpr (by omega)
      rw [if_pos c2]
      simp only [ob]
      obtain ⟨x, y, h⟩ := ih f (e / 2) (ad Q Q) (ad S Q) (on_ad hQ hQ) (on_ad hS hQ) he2 (by omega) (by omega)
      refine ⟨x, y, h.trans ?_⟩
      have h3 : ad (ad S Q) (mu (ad Q Q) (e / 2)) = ad S (mu Q e) := by
        rw [h2, mu_mul hQ, show ad (ad S Q) (mu Q (2 * (e / 2))) = ad S (ad Q (mu Q (2 * (e / 2)))) from ec_assoc fF hS hQ (on_mu hQ _)]
        have h4 := mu_add hQ 1 (2 * (e / 2))
        rw [mu_1] at h4
        rw [h4, show 1 + 2 * (e / 2) = e by omega]
      rw [h3]
    · have c2 : ¬ lg_cmp (li ((e : Int) % 2)) 1 = 0 := by rw [l_1]; exact fun h => absurd ((lc_eq (by omega) (by omega) (by omega) (by omega)).mp h) (by omega)
      rw [if_neg c2]
      simp only [ob]
      obtain ⟨x, y, h⟩ := ih f (e / 2) (ad Q Q) S (on_ad hQ hQ) hS he2 (by omega) (by omega)
      refine ⟨x, y, h.trans ?_⟩
      rw [h2, mu_mul hQ, show 2 * (e / 2) = e by omega]
theorem s_M_times {P : pt} (hP : ec_on P) {k : Nat} (hk : k < 4611686018427387904) : f_M_times (li k) (cR P) = some (cR (mu P k)) := by
  unfold f_M_times
  obtain ⟨x, y, h⟩ := ti_loop 62 64 k P none hP on_none hk (by omega) (by omega)
  have e : cR (none : pt) = -1 := rfl
  rw [e] at h
  simp only [ob]
  rw [h, ob]
  rfl
/-! the base point -/
def gG : pt := some (fz 1, fz 116058060)
theorem gG_on : ec_on gG := fun p h => by
  cases h
  decide +kernel
theorem gG_C : cC gG = 4411025356 := by decide +kernel
theorem gG_R : cR gG = 2263541708 := by decide +kernel
def mf : Nat → pt → pt → Nat → pt
  | 0, S, _, _ => S
  | f + 1, S, Q, e => mf f (cond (Nat.beq (e % 2) 1) (ad S Q) S) (ad Q Q) (e / 2)
theorem mf_spec : ∀ (f : Nat) (S Q : pt) (e : Nat), ec_on Q → ec_on S → e < 2 ^ f → mf f S Q e = ad S (mu Q e)
  | 0, S, Q, e, hQ, hS, he => by
    have he0 : e = 0 := by simpa using he
    subst he0
    rw [mu_0, show ad S none = S from eo_none iv S]
    rfl
  | f + 1, S, Q, e, hQ, hS, he => by
    have he2 : e / 2 < 2 ^ f := by rw [Nat.pow_succ] at he; omega
    have h2 : ad Q Q = mu Q 2 := by have := mu_add hQ 1 1; rw [mu_1] at this; exact this
    rw [mf]
    cases hb : Nat.beq (e % 2) 1 with
    | true =>
      have h4 := Nat.eq_of_beq_eq_true hb
      rw [cond, mf_spec f _ _ _ (on_ad hQ hQ) (on_ad hS hQ) he2, h2, mu_mul hQ, show ad (ad S Q) (mu Q (2 * (e / 2))) = ad S (ad Q (mu Q (2 * (e / 2)))) from ec_assoc fF hS hQ (on_mu hQ _)]
      have h5 := mu_add hQ 1 (2 * (e / 2))
      rw [mu_1] at h5
      rw [h5, show 1 + 2 * (e / 2) = e by omega]
    | false =>
      have h4 : e % 2 ≠ 1 := fun z => by rw [z] at hb; cases hb
      rw [cond, mf_spec f _ _ _ (on_ad hQ hQ) hS he2, h2, mu_mul hQ, show 2 * (e / 2) = e by omega]
