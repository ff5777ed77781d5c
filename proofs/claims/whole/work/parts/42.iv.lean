/-! Inverses by Euclid's steps; roots; quotients. -/
theorem iv_end {M : Nat} (hM : nt_P M) {b s lf hf hi : Int} (h1 : 0 < hi) (h2 : hi < M) (h3 : s * (lf * hi - hf * 0) = M) (h4 : (M : Int) ∣ hf * b - hi) : (M : Int) ∣ hf * b - 1 := by
  have e : (M : Int) = hi * (s * lf) := by rw [← h3]; rw [Int.mul_zero, Int.sub_zero, ← Int.mul_assoc, Int.mul_comm]
  have d : hi ∣ (M : Int) := ⟨_, e⟩
  obtain ⟨h, rfl⟩ := Int.eq_ofNat_of_zero_le (show 0 ≤ hi by omega)
  have d2 : h ∣ M := Int.natCast_dvd_natCast.mp d
  rcases hM.2 h d2 with h5 | h5
  · subst h5; exact h4
  · omega
theorem iv_bd {q lo : Int} (hq : 1 ≤ q) (hl : 0 ≤ lo) : lo ≤ q * lo := by
  have := Int.mul_le_mul_of_nonneg_right hq hl
  omega
theorem iv_half {lo lo' hi K : Int} (h0 : 0 < lo) (h1 : 0 ≤ lo') (h2 : lo' < lo) (h3 : lo + lo' ≤ hi) (h4 : lo * hi < K * 2) : lo' * lo < K := by
  have q1 : lo * (lo + lo') ≤ lo * hi := Int.mul_le_mul_of_nonneg_left h3 (by omega)
  have q2 : lo * (lo' + 1) ≤ lo * lo := Int.mul_le_mul_of_nonneg_left (by omega) (by omega)
  rw [Int.mul_add] at q1 q2
  rw [Int.mul_comm lo' lo]
  omega
theorem iv_abs {s lf hi hf lo m : Int} (hs : s = 1 ∨ s = -1) (h1 : 0 ≤ s * lf) (h2 : s * hf ≤ 0) (h3 : s * (lf * hi - hf * lo) = m) (h4 : 0 < hi) (h5 : 0 ≤ lo) : -m ≤ lf ∧ lf ≤ m := by
  have q1 : s * (lf * hi - hf * lo) = s * lf * hi - s * hf * lo := by rw [Int.mul_sub, Int.mul_assoc, Int.mul_assoc]
  have q2 : s * hf * lo ≤ 0 := Int.mul_nonpos_of_nonpos_of_nonneg h2 h5
  have q3 : s * lf * 1 ≤ s * lf * hi := Int.mul_le_mul_of_nonneg_left (by omega) h1
  rcases hs with rfl | rfl <;> omega
theorem iv_loop {M : Nat} (hM : nt_P M) (hM2 : M < 2147483648) {b : Int} : ∀ (k n i : Nat) (s lf hf lo hi : Int), lo * hi < 2 ^ k → k < n → i + k < 64 → 0 ≤ lo → lo < hi → hi ≤ M → (hi < M ∨ 0 < lo) → (s = 1 ∨ s = -1) → 0 ≤ s * lf → s * hf ≤ 0 → s * (lf * hi - hf * lo) = M → -(M : Int) ≤ hf → hf ≤ M → (M : Int) ∣ lf * b - lo → (M : Int) ∣ hf * b - hi → ∃ u1 u2 u4 u5 h, f_K_inverse_15 (li M) n (nI i) (li lf) (li hf) (li lo) (li hi) = some (u1, u2, li h, u4, u5) ∧ -(M : Int) ≤ h ∧ h ≤ M ∧ (M : Int) ∣ h * b - 1 := by
  intro k
  have fin : ∀ (n i : Nat) (s lf hf lo hi : Int), 0 < n → i < 64 → lo = 0 → lo < hi → (hi < M ∨ 0 < lo) → s * (lf * hi - hf * lo) = M → -(M : Int) ≤ hf → hf ≤ M → (M : Int) ∣ hf * b - hi → ∃ u1 u2 u4 u5 h, f_K_inverse_15 (li M) n (nI i) (li lf) (li hf) (li lo) (li hi) = some (u1, u2, li h, u4, u5) ∧ -(M : Int) ≤ h ∧ h ≤ M ∧ (M : Int) ∣ h * b - 1 := by
    intro n i s lf hf lo hi hn hi64 h0 h1 h2 h3 h4 h5 h6
    obtain ⟨n, rfl⟩ : ∃ f', n = f' + 1 := ⟨n - 1, by omega⟩
    subst h0
    have c0 : ¬ (64 : Int32) ≤ nI i := nI_ge (b := 64) hi64 (by decide)
    have c1 : lg_cmp (li 0) 0 = 0 := by rw [l_0]; exact (lc_eq (by omega) (by omega) (by omega) (by omega)).mpr rfl
    rw [f_K_inverse_15, if_neg c0, if_pos c1]
    exact ⟨_, _, _, _, hf, rfl, h4, h5, iv_end hM h1 (h2.resolve_right (by omega)) h3 h6⟩
  induction k with
  | zero =>
    intro n i s lf hf lo hi hk hn hi64 h0 h1 h2 h3 hs h4 h5 h6 h7 h8 h9 h10
    have hlo : lo = 0 := by
      rcases Int.lt_or_eq_of_le h0 with h | h
      · have := Int.mul_lt_mul_of_pos_left (show 0 < hi by omega) h
        have e : lo * hi < 1 := hk
        omega
      · exact h.symm
    exact fin n i s lf hf lo hi (by omega) (by omega) hlo h1 h3 h6 h7 h8 h10
  | succ k ih =>
    intro n i s lf hf lo hi hk hn hi64 h0 h1 h2 h3 hs h4 h5 h6 h7 h8 h9 h10
    by_cases hlo : lo = 0
    · exact fin n i s lf hf lo hi (by omega) (by omega) hlo h1 h3 h6 h7 h8 h10
    · obtain ⟨n, rfl⟩ : ∃ f', n = f' + 1 := ⟨n - 1, by omega⟩
      have hlp : 0 < lo := by omega
      have c0 : ¬ (64 : Int32) ≤ nI i := nI_ge (b := 64) (by omega) (by decide)
      have c1 : ¬ lg_cmp (li lo) 0 = 0 := by rw [l_0]; exact fun h => hlo ((lc_eq (by omega) (by omega) (by omega) (by omega)).mp h)
      have c2 : ¬ li lo = 0 := by rw [l_0]; exact fun h => hlo ((li_inj (by omega) (by omega) (by omega) (by omega)).mp h)
      rw [f_K_inverse_15, if_neg c0, if_neg c1, if_neg c2]
      simp only [Option.bind_some]
      rw [li_divp (by omega) (by omega) (by omega) (by omega)]
      generalize hq : hi / lo = q
      have e1 : hi % lo = hi - q * lo := by rw [Int.emod_def, hq, Int.mul_comm]
      have e2 := Int.emod_nonneg hi (show lo ≠ 0 by omega)
      have e3 := Int.emod_lt_of_pos hi hlp
      rw [e1] at e2 e3
      have hq1 : 1 ≤ q := by
        rcases Int.lt_or_le q 1 with h | h
        · have : q * lo ≤ 0 * lo := Int.mul_le_mul_of_nonneg_right (by omega) (by omega)
          omega
        · exact h
      have hql := iv_bd hq1 (show 0 ≤ lo by omega)
      rw [li_mul, li_sub, li_mul, li_sub, nI_1]
      have ha := iv_abs hs h4 h5 h6 (by omega) h0
      refine ih n (i + 1) (-s) (hf - q * lf) lf (hi - q * lo) lo ?_ (by omega) (by omega) e2 e3 (by omega) (Or.inl (by omega)) (by omega) ?_ ?_ ?_ ha.1 ha.2 ?_ h9
      · exact iv_half (hi := hi) hlp e2 e3 (by omega) (by rw [Int.pow_succ] at hk; exact hk)
      · have : -s * (hf - q * lf) = -(s * hf) + q * (s * lf) := by rw [Int.mul_sub, Int.neg_mul, Int.neg_mul, Int.sub_neg, ← Int.mul_assoc, Int.mul_comm s q, Int.mul_assoc]
        rw [this]
        have := Int.mul_nonneg (show 0 ≤ q by omega) h4
        omega
      · rw [Int.neg_mul]; omega
      · have : -s * ((hf - q * lf) * lo - lf * (hi - q * lo)) = s * (lf * hi - hf * lo) := by
          have : (hf - q * lf) * lo - lf * (hi - q * lo) = -(lf * hi - hf * lo) := by
            rw [Int.sub_mul, Int.mul_sub, show lf * (q * lo) = q * lf * lo by rw [← Int.mul_assoc, Int.mul_comm lf q]]
            omega
          rw [this, Int.neg_mul_neg]
        rw [this]; exact h6
      · have : (hf - q * lf) * b - (hi - q * lo) = (hf * b - hi) - q * (lf * b - lo) := by
          rw [Int.sub_mul, Int.mul_sub, Int.mul_assoc]
          omega
        rw [this]
        exact Int.dvd_sub h10 (Int.dvd_mul_of_dvd_right h9)
theorem iv_uniq {M : Nat} (hM : nt_P M) {b r w : Nat} (hr : r < M) (hw : w < M) (h1 : r * b % M = 1) (h2 : w * b % M = 1) : r = w := by
  have key : ∀ x y : Nat, x < M → x * b % M = 1 → y * b % M = 1 → y ≤ x → x = y := by
    intro x y hx h3 h4 hle
    obtain ⟨d, rfl⟩ : ∃ d, x = y + d := ⟨x - y, by omega⟩
    have h5 : (y * b + d * b) % M = y * b % M := by rw [← Nat.add_mul, h3, h4]
    have h6 : M ∣ d * b := by
      have h7 : (d * b) % M = 0 := by
        have h8 := Nat.add_mod (y * b) (d * b) M
        rw [h5, h4] at h8
        have h9 := Nat.mod_lt (d * b) (show 0 < M by omega)
        by_cases h0 : 1 + d * b % M < M
        · rw [Nat.mod_eq_of_lt h0] at h8; omega
        · have h10 : 1 + d * b % M = M := by omega
          rw [h10, Nat.mod_self] at h8
          omega
      exact Nat.dvd_of_mod_eq_zero h7
    rcases nt_euclid hM h6 with h | h
    · have : d = 0 := Nat.eq_zero_of_dvd_of_lt h (by omega)
      omega
    · exfalso
      have : y * b % M = 0 := Nat.mod_eq_zero_of_dvd (Nat.dvd_trans h (Nat.dvd_mul_left _ _))
      omega
  rcases Nat.le_total w r with h | h
  · exact key r w hr h1 h2 h
  · exact (key w r hw h2 h1 h).symm
theorem s_K_inverse {M b : Nat} (hM : nt_P M) (hM2 : M < 1073741824) (hM3 : 2 < M) (hb : b < M) : f_K_inverse (li b) (li M) = some (li ((b ^ (M - 2) % M : Nat) : Int)) := by
  unfold f_K_inverse
  by_cases h0 : b = 0
  · subst h0
    have c1 : lg_cmp (li ((0 : Nat) : Int)) 0 = 0 := by rw [l_0]; exact (lc_eq (by omega) (by omega) (by omega) (by omega)).mpr (by omega)
    have c2 : 0 ≤ lg_cmp (0 : Int64) 0 := by decide
    rw [f_K_inverse_15, if_neg (by decide), if_pos c1]
    simp only [Option.bind_some, if_pos c2]
    rw [Nat.zero_pow (by omega), Nat.zero_mod]
    exact congrArg some l_0
  · have hk : (b : Int) * M < 2 ^ 60 := by
      have h1 : b * M < 1073741824 * 1073741824 := Nat.mul_lt_mul'' (by omega) hM2
      have h2 : ((b * M : Nat) : Int) = (b : Int) * M := Int.natCast_mul b M
      have h3 : (2 : Int) ^ 60 = 1152921504606846976 := by decide
      omega
    obtain ⟨u1, u2, u4, u5, h, e, h1, h2, h3⟩ := iv_loop hM (by omega) (b := b) 60 65 0 1 1 0 b M hk (by omega) (by omega) (by omega) (by omega) (by omega) (Or.inr (by omega)) (Or.inl rfl) (by omega) (by omega) (by omega) (by omega) (by omega) (by simp) (by simp)
    have e0 : f_K_inverse_15 (li M) 65 0 1 0 (li b) (li M) = some (u1, u2, li h, u4, u5) := by
      have q : nI 0 = 0 := by decide
      rw [q, ← l_0, ← l_1] at e
      exact e
    rw [e0]
    have hdv : ∀ t : Int, (M : Int) ∣ t * b - 1 → ¬ (t = M ∨ t = -M) := by
      intro t ht h9
      have h10 : (M : Int) ∣ 1 := by
        have h11 : (M : Int) ∣ t * b := by
          rcases h9 with rfl | rfl
          · exact Int.dvd_mul_right _ _
          · rw [Int.neg_mul]; exact Int.dvd_neg.mpr (Int.dvd_mul_right _ _)
        have h12 := Int.dvd_sub h11 ht
        rw [show t * (b : Int) - (t * b - 1) = 1 by omega] at h12
        exact h12
      have := Int.le_of_dvd (by omega) h10
      omega
    have hne := hdv h h3
    have key : ∀ r : Nat, r < M → (M : Int) ∣ (r : Int) * b - 1 → r = b ^ (M - 2) % M := by
      intro r hr hd
      refine iv_uniq hM (b := b) hr (Nat.mod_lt _ (by omega)) ?_ (nt_inv hM (by rw [Nat.mod_eq_of_lt hb]; exact h0))
      have h13 : ((r * b : Nat) : Int) % M = 1 := by
        rw [Int.natCast_mul]
        have := (Int.emod_emod_of_dvd ((r : Int) * b) (Int.dvd_refl (M : Int)))
        have h14 : ((r : Int) * b) % M = 1 % M := (Int.emod_eq_emod_iff_emod_sub_eq_zero).mpr (Int.emod_eq_zero_of_dvd hd)
        rw [h14]
        exact Int.emod_eq_of_lt (by omega) (by omega)
      have h15 : ((r * b % M : Nat) : Int) = 1 := by rw [Int.natCast_emod]; exact h13
      omega
    by_cases hp : 0 ≤ h
    · have c2 : 0 ≤ lg_cmp (li h) 0 := by rw [l_0]; exact (lc_ge (by omega) (by omega) (by omega) (by omega)).mpr hp
      simp only [Option.bind_some, if_pos c2]
      obtain ⟨r, rfl⟩ := Int.eq_ofNat_of_zero_le hp
      rw [key r (by omega) h3]
    · have c2 : ¬ 0 ≤ lg_cmp (li h) 0 := by rw [l_0]; exact fun h9 => hp ((lc_ge (by omega) (by omega) (by omega) (by omega)).mp h9)
      simp only [Option.bind_some, if_neg c2]
      rw [li_add]
      obtain ⟨r, hr⟩ := Int.eq_ofNat_of_zero_le (show 0 ≤ h + M by omega)
      rw [hr]
      rw [key r (by omega) ?_]
      rw [← hr, Int.add_mul, show h * (b : Int) + M * b - 1 = (h * b - 1) + M * b by omega]
      exact Int.dvd_add h3 (Int.dvd_mul_right _ _)
