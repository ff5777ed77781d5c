/-! Numbers: primes by trial, Fermat's small theorem. -/
def nt_go (p : Nat) : Nat → Bool
  | 0 => true
  | n + 1 => cond (Nat.beq (p % (n + 2)) 0) false (nt_go p n)
theorem nt_go_spec {p : Nat} : ∀ {f : Nat}, nt_go p f = true → ∀ e, 2 ≤ e → e ≤ f + 1 → p % e ≠ 0
  | 0, _, e, h1, h2 => by omega
  | f + 1, h, e, h1, h2 => by
    simp only [nt_go] at h
    cases hb : Nat.beq (p % (f + 2)) 0 with
    | true => rw [hb] at h; cases h
    | false =>
      rw [hb] at h
      by_cases he : e = f + 2
      · subst he
        intro h0
        rw [h0] at hb
        cases hb
      · exact nt_go_spec (f := f) h e h1 (by omega)
def nt_P (p : Nat) : Prop := 2 ≤ p ∧ ∀ d, d ∣ p → d = 1 ∨ d = p
theorem nt_prime {p f : Nat} (h2 : 2 ≤ p) (h : nt_go p f = true) (hf : p < (f + 2) * (f + 2)) : nt_P p := by
  refine ⟨h2, fun d hd => ?_⟩
  obtain ⟨e, he⟩ := hd
  by_cases h1 : d = 1
  · exact Or.inl h1
  · by_cases h3 : e = 1
    · right; rw [he, h3, Nat.mul_one]
    · exfalso
      have d0 : d ≠ 0 := fun z => by rw [z, Nat.zero_mul] at he; omega
      have e0 : e ≠ 0 := fun z => by rw [z, Nat.mul_zero] at he; omega
      have m1 : p % d = 0 := by rw [he]; exact Nat.mul_mod_right d e
      have m2 : p % e = 0 := by rw [he]; exact Nat.mul_mod_left d e
      by_cases c1 : d ≤ f + 1
      · exact nt_go_spec h d (by omega) c1 m1
      · by_cases c2 : e ≤ f + 1
        · exact nt_go_spec h e (by omega) c2 m2
        · have : (f + 2) * (f + 2) ≤ d * e := Nat.mul_le_mul (by omega) (by omega)
          omega
theorem nt_euclid {p a b : Nat} (hp : nt_P p) (h : p ∣ a * b) : p ∣ a ∨ p ∣ b := by
  rcases hp.2 (Nat.gcd p a) (Nat.gcd_dvd_left p a) with h1 | h1
  · exact Or.inr (Nat.Coprime.dvd_of_dvd_mul_left h1 h)
  · left; rw [← h1]; exact Nat.gcd_dvd_right p a
def nt_ch : Nat → Nat → Nat
  | _, 0 => 1
  | 0, _ + 1 => 0
  | n + 1, k + 1 => nt_ch n k + nt_ch n (k + 1)
theorem nt_ch_z (n : Nat) : nt_ch n 0 = 1 := by cases n <;> rfl
theorem nt_ch_0 (k : Nat) : nt_ch 0 (k + 1) = 0 := rfl
theorem nt_ch_s (n k : Nat) : nt_ch (n + 1) (k + 1) = nt_ch n k + nt_ch n (k + 1) := rfl
theorem nt_ch_big : ∀ (n k : Nat), n < k → nt_ch n k = 0
  | n, 0, h => by omega
  | 0, k + 1, _ => rfl
  | n + 1, k + 1, h => by rw [nt_ch_s, nt_ch_big n k (by omega), nt_ch_big n (k + 1) (by omega)]
theorem nt_ch_self : ∀ n : Nat, nt_ch n n = 1
  | 0 => rfl
  | n + 1 => by rw [nt_ch_s, nt_ch_self n, nt_ch_big n (n + 1) (by omega)]
theorem nt_ch_mul : ∀ (n k : Nat), (k + 1) * nt_ch (n + 1) (k + 1) = (n + 1) * nt_ch n k
  | 0, 0 => rfl
  | 0, k + 1 => by rw [nt_ch_s, nt_ch_0, nt_ch_0]; simp
  | n + 1, 0 => by
    have h := nt_ch_mul n 0
    rw [nt_ch_z] at h
    rw [nt_ch_s, nt_ch_z]
    omega
  | n + 1, k + 1 => by
    have h1 := nt_ch_mul n (k + 1)
    have h2 := nt_ch_mul n k
    rw [nt_ch_s (n + 1) (k + 1), Nat.mul_add, h1]
    have h3 : (k + 1 + 1) * nt_ch (n + 1) (k + 1) = (n + 1) * nt_ch n k + nt_ch (n + 1) (k + 1) := by rw [Nat.add_mul (k + 1) 1, h2, Nat.one_mul]
    rw [h3, Nat.add_mul (n + 1) 1, Nat.one_mul, nt_ch_s n k, Nat.mul_add]
    omega
def nt_bs (n a : Nat) : Nat → Nat
  | 0 => 0
  | m + 1 => nt_bs n a m + nt_ch n m * a ^ m
theorem nt_bs_s (n a : Nat) : ∀ m, nt_bs (n + 1) a (m + 1) = nt_bs n a (m + 1) + a * nt_bs n a m
  | 0 => by
    show 0 + nt_ch (n + 1) 0 * a ^ 0 = 0 + nt_ch n 0 * a ^ 0 + a * 0
    rw [nt_ch_z, nt_ch_z]
    omega
  | m + 1 => by
    show nt_bs (n + 1) a (m + 1) + nt_ch (n + 1) (m + 1) * a ^ (m + 1) = nt_bs n a (m + 1) + nt_ch n (m + 1) * a ^ (m + 1) + a * (nt_bs n a m + nt_ch n m * a ^ m)
    rw [nt_bs_s n a m, nt_ch_s, Nat.add_mul, Nat.mul_add]
    have h : a * (nt_ch n m * a ^ m) = nt_ch n m * a ^ (m + 1) := by rw [Nat.pow_succ, Nat.mul_left_comm, Nat.mul_comm a]
    rw [h]
    omega
theorem nt_binom (a : Nat) : ∀ n, (a + 1) ^ n = nt_bs n a (n + 1)
  | 0 => by
    show 1 = 0 + nt_ch 0 0 * a ^ 0
    rw [nt_ch_z, Nat.pow_zero]
  | n + 1 => by
    have h1 : nt_bs n a (n + 2) = nt_bs n a (n + 1) := by
      show nt_bs n a (n + 1) + nt_ch n (n + 1) * a ^ (n + 1) = nt_bs n a (n + 1)
      rw [nt_ch_big n (n + 1) (by omega), Nat.zero_mul, Nat.add_zero]
    rw [nt_bs_s, h1, Nat.pow_succ, nt_binom a n, Nat.mul_add, Nat.mul_one, Nat.mul_comm a]
    omega
theorem nt_ch_p {p : Nat} (hp : nt_P p) {k : Nat} (h0 : k + 1 < p) : p ∣ nt_ch p (k + 1) := by
  obtain ⟨q, rfl⟩ : ∃ q, p = q + 1 := ⟨p - 1, by omega⟩
  have h1 : q + 1 ∣ (k + 1) * nt_ch (q + 1) (k + 1) := ⟨nt_ch q k, nt_ch_mul q k⟩
  rcases nt_euclid hp h1 with h2 | h2
  · exact absurd (Nat.le_of_dvd (by omega) h2) (by omega)
  · exact h2
theorem nt_bs_p {p : Nat} (hp : nt_P p) (a : Nat) : ∀ k, k < p → nt_bs p a (k + 1) % p = 1
  | 0, h => by
    show (0 + nt_ch p 0 * a ^ 0) % p = 1
    rw [nt_ch_z, Nat.pow_zero]
    exact Nat.mod_eq_of_lt hp.1
  | k + 1, h => by
    show (nt_bs p a (k + 1) + nt_ch p (k + 1) * a ^ (k + 1)) % p = 1
    obtain ⟨c, hc⟩ := nt_ch_p hp h
    rw [hc, Nat.mul_assoc, Nat.add_mul_mod_self_left]
    exact nt_bs_p hp a k (by omega)
theorem nt_dream {p : Nat} (hp : nt_P p) (a : Nat) : (a + 1) ^ p % p = (a ^ p + 1) % p := by
  rw [nt_binom a p]
  obtain ⟨q, rfl⟩ : ∃ q, p = q + 1 := ⟨p - 1, by have := hp.1; omega⟩
  show (nt_bs (q + 1) a (q + 1) + nt_ch (q + 1) (q + 1) * a ^ (q + 1)) % (q + 1) = _
  rw [nt_ch_self, Nat.one_mul, Nat.add_mod, nt_bs_p hp a q (by omega), Nat.add_mod_mod, Nat.add_comm]
theorem nt_fermat {p : Nat} (hp : nt_P p) : ∀ a : Nat, a ^ p % p = a % p
  | 0 => by
    obtain ⟨q, rfl⟩ : ∃ q, p = q + 1 := ⟨p - 1, by have := hp.1; omega⟩
    rw [Nat.pow_succ, Nat.mul_zero]
  | a + 1 => by rw [nt_dream hp, Nat.add_mod, nt_fermat hp a, ← Nat.add_mod]
theorem nt_ferm1 {p : Nat} (hp : nt_P p) {a : Nat} (ha : a % p ≠ 0) : a ^ (p - 1) % p = 1 := by
  have h2 := hp.1
  have h1 := nt_fermat hp a
  have h3 : a ^ p = a * a ^ (p - 1) := by
    obtain ⟨q, rfl⟩ : ∃ q, p = q + 1 := ⟨p - 1, by omega⟩
    rw [Nat.pow_succ, Nat.mul_comm, Nat.add_sub_cancel]
  have ha0 : 0 < a := Nat.pos_of_ne_zero fun z => ha (by rw [z, Nat.zero_mod])
  have hpos : 0 < a ^ (p - 1) := Nat.pow_pos ha0
  have h4 : p ∣ a * (a ^ (p - 1) - 1) := by
    rw [Nat.mul_sub, Nat.mul_one, ← h3]
    exact Nat.dvd_of_mod_eq_zero (Nat.sub_mod_eq_zero_of_mod_eq h1)
  rcases nt_euclid hp h4 with h5 | h5
  · exact absurd (Nat.mod_eq_zero_of_dvd h5) ha
  · obtain ⟨c, hc⟩ := h5
    have h6 : a ^ (p - 1) = 1 + p * c := by omega
    rw [h6, Nat.add_mul_mod_self_left]
    exact Nat.mod_eq_of_lt h2
theorem nt_inv {p : Nat} (hp : nt_P p) {a : Nat} (ha : a % p ≠ 0) : a ^ (p - 2) % p * a % p = 1 := by
  have h2 := hp.1
  by_cases h3 : p = 2
  · subst h3
    rw [Nat.sub_self, Nat.pow_zero]
    have : a % 2 = 1 := by omega
    omega
  · have h4 : a ^ (p - 2) * a = a ^ (p - 1) := by rw [show p - 1 = (p - 2) + 1 by omega, Nat.pow_succ]
    rw [Nat.mod_mul_mod, h4]
    exact nt_ferm1 hp ha
/-- powers, a bit a step -/
def nt_pw (m : Nat) : Nat → Nat → Nat → Nat → Nat
  | 0, v, _, _ => v
  | f + 1, v, b, e => nt_pw m f (cond (Nat.beq (e % 2) 1) (v * b % m) v) (b * b % m) (e / 2)
theorem nt_pw_spec (m : Nat) : ∀ (f v b e : Nat), e < 2 ^ f → nt_pw m f v b e % m = v * b ^ e % m
  | 0, v, b, e, h => by
    have : e = 0 := by omega
    subst this
    simp only [nt_pw, Nat.pow_zero, Nat.mul_one]
  | f + 1, v, b, e, h => by
    have h2 : e / 2 < 2 ^ f := by rw [Nat.pow_succ] at h; omega
    simp only [nt_pw]
    rw [nt_pw_spec m f _ _ _ h2, Nat.mul_mod, Nat.pow_mod, Nat.mod_mod, ← Nat.pow_mod, ← Nat.mul_mod, ← Nat.pow_two, ← Nat.pow_mul]
    have h3 := Nat.div_add_mod e 2
    cases hb : Nat.beq (e % 2) 1 with
    | true =>
      have h4 := Nat.eq_of_beq_eq_true hb
      have h5 : e = 2 * (e / 2) + 1 := by omega
      have h6 : b ^ e = b ^ (2 * (e / 2)) * b := congrArg (fun z => b ^ z) h5
      rw [cond, Nat.mod_mul_mod, h6, Nat.mul_assoc, Nat.mul_comm b]
    | false =>
      have h4 : e % 2 ≠ 1 := fun z => by rw [z] at hb; cases hb
      have h5 : e = 2 * (e / 2) := by omega
      rw [cond, ← h5]
def nt_p : Nat := 1073735023
def nt_n : Nat := 1073729077
set_option maxRecDepth 100000 in
theorem nt_p_prime : nt_P nt_p := nt_prime (f := 32768) (by decide) (by decide +kernel) (by decide)
set_option maxRecDepth 100000 in
theorem nt_n_prime : nt_P nt_n := nt_prime (f := 32768) (by decide) (by decide +kernel) (by decide)
