/-! Powers, inverses and roots, as the class and the reference compute them. -/
theorem mb {a b c : Int} (h1 : 0 ≤ a) (h2 : a < c) (h3 : 0 ≤ b) (h4 : b < c) : 0 ≤ a * b ∧ a * b < c * c := by
  refine ⟨Int.mul_nonneg h1 h3, ?_⟩
  have q1 : a * b ≤ a * c := Int.mul_le_mul_of_nonneg_left (by omega) h1
  have q2 : a * c < c * c := Int.mul_lt_mul_of_pos_right h2 (by omega)
  omega
theorem cc31 {M : Nat} (hM : M < 2147483648) : (M : Int) * M < 4611686018427387904 := by
  have h1 : M * M ≤ 2147483647 * 2147483647 := Nat.mul_le_mul (by omega) (by omega)
  have h2 : ((M * M : Nat) : Int) = (M : Int) * M := Int.natCast_mul M M
  omega
theorem mm_li {M a b : Nat} (hM : M < 2147483648) (ha : a < M) (hb : b < M) : (li a * li b) - (li a * li b) / li M * li M = li ((a * b % M : Nat) : Int) := by
  have h1 := mb (a := a) (b := b) (c := M) (by omega) (by omega) (by omega) (by omega)
  have h2 := cc31 hM
  rw [li_mul, li_remp (by omega) (by omega) (by omega) (by omega)]
  rw [Int.natCast_emod, Int.natCast_mul]
theorem pw_step (M b v e : Nat) : (if e % 2 = 1 then v * b % M else v) * (b * b % M) ^ (e / 2) % M = v * b ^ e % M := by
  have h1 : (b * b) ^ (e / 2) = b ^ (2 * (e / 2)) := by rw [← Nat.pow_two, ← Nat.pow_mul]
  have h2 : ∀ x : Nat, x * (b * b % M) ^ (e / 2) % M = x * b ^ (2 * (e / 2)) % M := fun x => by
    rw [Nat.mul_mod, ← Nat.pow_mod, h1, ← Nat.mul_mod]
  rw [h2]
  by_cases h : e % 2 = 1
  · rw [if_pos h, Nat.mul_mod, Nat.mod_mod, ← Nat.mul_mod, Nat.mul_assoc, ← Nat.pow_succ', show (2 * (e / 2)).succ = e by omega]
  · rw [if_neg h, show 2 * (e / 2) = e by omega]
theorem pw_loop {M : Nat} (h2 : 2 ≤ M) (hM : M < 2147483648) : ∀ (k f e b v : Nat), e < 2 ^ k → k ≤ 62 → k < f → b < M → v < M → ∃ x y, f_M_power_14 (li M) f (li e) (li b) (li v) = some (x, y, li ((v * b ^ e % M : Nat) : Int)) := by
  have hne : ¬ li (M : Int) = 0 := fun h0 => by rw [l_0, li_inj (by omega) (by omega) (by omega) (by omega)] at h0; omega
  intro k
  induction k with
  | zero =>
    intro f e b v he hk hf hb hv
    obtain ⟨f, rfl⟩ : ∃ f', f = f' + 1 := ⟨f - 1, by omega⟩
    have he0 : e = 0 := by simpa using he
    subst he0
    rw [f_M_power_14]
    have c1 : lg_cmp (li ((0 : Nat) : Int)) 0 ≤ 0 := by rw [l_0]; exact (lc_le (by omega) (by omega) (by omega) (by omega)).mpr (by omega)
    rw [if_pos c1]
    exact ⟨_, _, by rw [Nat.pow_zero, Nat.mul_one, Nat.mod_eq_of_lt hv]⟩
  | succ k ih =>
    intro f e b v he hk hf hb hv
    obtain ⟨f, rfl⟩ : ∃ f', f = f' + 1 := ⟨f - 1, by omega⟩
    have hp : 2 ^ (k + 1) ≤ 2 ^ 62 := Nat.pow_le_pow_right (by decide) hk
    have he62 : e < 4611686018427387904 := Nat.lt_of_lt_of_le he hp
    rw [f_M_power_14]
    by_cases h0 : e = 0
    · subst h0
      have c1 : lg_cmp (li ((0 : Nat) : Int)) 0 ≤ 0 := by rw [l_0]; exact (lc_le (by omega) (by omega) (by omega) (by omega)).mpr (by omega)
      rw [if_pos c1]
      exact ⟨_, _, by rw [Nat.pow_zero, Nat.mul_one, Nat.mod_eq_of_lt hv]⟩
    · have c1 : ¬ lg_cmp (li (e : Int)) 0 ≤ 0 := by rw [l_0]; exact fun h => absurd ((lc_le (by omega) (by omega) (by omega) (by omega)).mp h) (by omega)
      rw [if_neg c1]
      have e2 : li (e : Int) - li e / 2 * 2 = li ((e : Int) % 2) := by rw [l_2]; exact li_remp (by omega) (by omega) (by omega) (by omega)
      have e3 : li (e : Int) / 2 = li ((e / 2 : Nat) : Int) := by rw [l_2, li_divp (by omega) (by omega) (by omega) (by omega), Int.natCast_ediv]; rfl
      rw [e2, e3, mm_li hM hv hb, mm_li hM hb hb]
      have hb2 : b * b % M < M := Nat.mod_lt _ (by omega)
      have hv2 : v * b % M < M := Nat.mod_lt _ (by omega)
      have he2 : e / 2 < 2 ^ k := by rw [Nat.pow_succ] at he; omega
      by_cases h1 : e % 2 = 1
      · have c2 : lg_cmp (li ((e : Int) % 2)) 1 = 0 := by rw [l_1]; exact (lc_eq (by omega) (by omega) (by omega) (by omega)).mpr (by omega)
        rw [if_pos c2, if_neg hne]
        simp only [Option.bind_some, if_neg hne]
        have q := ih f (e / 2) (b * b % M) (v * b % M) he2 (by omega) (by omega) hb2 hv2
        have s := pw_step M b v e
        rw [if_pos h1] at s
        rw [s] at q
        exact q
      · have c2 : ¬ lg_cmp (li ((e : Int) % 2)) 1 = 0 := by rw [l_1]; exact fun h => absurd ((lc_eq (by omega) (by omega) (by omega) (by omega)).mp h) (by omega)
        rw [if_neg c2]
        simp only [Option.bind_some, if_neg hne]
        have q := ih f (e / 2) (b * b % M) v he2 (by omega) (by omega) hb2 hv
        have s := pw_step M b v e
        rw [if_neg h1] at s
        rw [s] at q
        exact q
theorem s_M_power {M b e : Nat} (h2 : 2 ≤ M) (hM : M < 2147483648) (hb : b < 4611686018427387904) (he : e < 4611686018427387904) : f_M_power (li b) (li e) (li M) = some (li ((b ^ e % M : Nat) : Int)) := by
  unfold f_M_power
  rw [s_M_mod (by omega) (by omega) (by omega) (by omega)]
  have hb2 : b % M < M := Nat.mod_lt _ (by omega)
  obtain ⟨x, y, h⟩ := pw_loop h2 hM 62 64 e (b % M) 1 he (by omega) (by omega) hb2 (by omega)
  have e1 : ((b : Int) % M) = ((b % M : Nat) : Int) := (Int.natCast_emod b M).symm
  rw [e1, l_1]
  have e2 : li 1 = li ((1 : Nat) : Int) := rfl
  simp only [Option.bind_some]
  rw [e2, h]
  show some _ = some _
  rw [Nat.one_mul, ← Nat.pow_mod]
