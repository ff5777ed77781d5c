/-! The field. -/
abbrev fp : Type := Fin 1073735023
def fz (z : Int) : fp := ⟨(z % 1073735023).toNat, by omega⟩
def fv (a : fp) : Int := (a.val : Int)
theorem fv_0 (a : fp) : 0 ≤ fv a := Int.natCast_nonneg _
theorem fv_p (a : fp) : fv a < 1073735023 := Int.ofNat_lt.mpr a.isLt
theorem fv_fz (z : Int) : fv (fz z) = z % 1073735023 := Int.toNat_of_nonneg (by omega)
theorem fv_inj {a b : fp} (h : fv a = fv b) : a = b := Fin.ext (Int.ofNat.inj h)
theorem fz_fv (a : fp) : fz (fv a) = a := fv_inj (by rw [fv_fz]; have := fv_0 a; have := fv_p a; omega)
theorem fz_eq {a b : Int} (h : a % 1073735023 = b % 1073735023) : fz a = fz b := fv_inj (by rw [fv_fz, fv_fz, h])
theorem fz_mod (z : Int) : fz (z % 1073735023) = fz z := fz_eq (by omega)
theorem fe {z : Int} {a : fp} (h : fz z = a) : z % 1073735023 = fv a := by rw [← h, fv_fz]
theorem fv_add (a b : fp) : fv (a + b) = (fv a + fv b) % 1073735023 := by
  show (((a.val + b.val) % 1073735023 : Nat) : Int) = ((a.val : Int) + b.val) % 1073735023
  omega
theorem fv_mul (a b : fp) : fv (a * b) = (fv a * fv b) % 1073735023 := by
  show (((a.val * b.val) % 1073735023 : Nat) : Int) = ((a.val : Int) * b.val) % 1073735023
  rw [Int.natCast_emod, Int.natCast_mul]; rfl
theorem fv_sub (a b : fp) : fv (a - b) = (fv a - fv b) % 1073735023 := by
  show (((1073735023 - b.val + a.val) % 1073735023 : Nat) : Int) = ((a.val : Int) - b.val) % 1073735023
  have := b.isLt
  omega
theorem fz_add (a b : Int) : fz (a + b) = fz a + fz b := fv_inj (by rw [fv_add, fv_fz, fv_fz, fv_fz]; omega)
theorem fz_sub (a b : Int) : fz (a - b) = fz a - fz b := fv_inj (by rw [fv_sub, fv_fz, fv_fz, fv_fz]; omega)
theorem fz_mul (a b : Int) : fz (a * b) = fz a * fz b := fv_inj (by rw [fv_mul, fv_fz, fv_fz, fv_fz]; exact Int.mul_emod a b _)
theorem fz_3 : fz 3 = (3 : fp) := by decide +kernel
theorem fz_7 : fz 7 = (7 : fp) := by decide +kernel
theorem fz_2 (y : fp) : fz 2 * y = y + y := by
  have h : fz 2 = (1 : fp) + 1 := by decide +kernel
  rw [h]
  grind
def iv (a : fp) : fp := ⟨nt_pw 1073735023 30 1 a.val 1073735021 % 1073735023, Nat.mod_lt _ (by decide)⟩
theorem iv_v {M : Nat} (hM : M = 1073735023) (a : fp) : (iv a).val = a.val ^ (M - 2) % M := by
  have h := nt_pw_spec M 30 1 a.val (M - 2) (by rw [hM]; decide)
  rw [Nat.one_mul] at h
  rw [← h]
  subst hM
  rfl
theorem p_prime {M : Nat} (hM : M = 1073735023) : nt_P M := by subst hM; exact nt_p_prime
theorem n_prime {M : Nat} (hM : M = 1073729077) : nt_P M := by subst hM; exact nt_n_prime
theorem qz_fz {M : Nat} (hM : M = 1073735023) (z : Int) (w : Nat) : qz M z w = fv (fz z * iv (fz (w : Int))) := by
  have h1 : fv (iv (fz (w : Int))) = ((w ^ (M - 2) % M : Nat) : Int) := by
    show (((iv (fz (w : Int))).val : Nat) : Int) = _
    rw [iv_v hM]
    have h2 : (fz (w : Int)).val = w % M := by
      have := fv_fz (w : Int)
      have h3 : ((fz (w : Int)).val : Int) = (w : Int) % 1073735023 := this
      rw [hM]
      omega
    rw [h2, ← Nat.pow_mod]
  rw [fv_mul, fv_fz, h1]
  unfold qz
  rw [show (1073735023 : Int) = (M : Int) by omega]
theorem no_cube {M : Nat} (hM : M = 1073735023) {x : Nat} (hx : x < M) (h : (x * x * x + 7) % M = 0) : False := by
  have hP := p_prime hM
  have hx0 : x % M ≠ 0 := fun h0 => by
    have : x = 0 := by rw [Nat.mod_eq_of_lt hx] at h0; exact h0
    subst this
    have : (0 * 0 * 0 + 7) % M = 7 := Nat.mod_eq_of_lt (by omega)
    omega
  have h1 := nt_ferm1 hP hx0
  have h2 : x * x * x % M = (M - 7) % M := by
    have h3 := Nat.add_mod (x * x * x) 7 M
    rw [h] at h3
    have h4 : x * x * x % M < M := Nat.mod_lt _ (by omega)
    rw [Nat.mod_eq_of_lt (show 7 < M by omega)] at h3
    rw [Nat.mod_eq_of_lt (show M - 7 < M by omega)]
    generalize x * x * x % M = t at h3 h4 ⊢
    by_cases h5 : t + 7 < M
    · rw [Nat.mod_eq_of_lt h5] at h3; omega
    · by_cases h6 : t + 7 = M
      · omega
      · have : (t + 7) % M = t + 7 - M := by rw [Nat.mod_eq_sub_mod (by omega), Nat.mod_eq_of_lt (by omega)]
        omega
  have h7 : (x * x * x) ^ ((M - 1) / 3) = x ^ (M - 1) := by
    have : x * x * x = x ^ 3 := by rw [Nat.pow_succ, Nat.pow_succ, Nat.pow_one]
    rw [this, ← Nat.pow_mul, show 3 * ((M - 1) / 3) = M - 1 by omega]
  rw [← h7, Nat.pow_mod, h2, ← Nat.pow_mod] at h1
  have h8 := nt_pw_spec M 30 1 (M - 7) ((M - 1) / 3) (by rw [hM]; decide)
  rw [Nat.one_mul, h1] at h8
  have h9 : nt_pw M 30 1 (M - 7) ((M - 1) / 3) % M = 1030763965 := by rw [hM]; decide +kernel
  omega
theorem fF : ec_F fp iv := by
  have nz : ∀ a b : fp, a * b = 0 → a = 0 ∨ b = 0 := fun a b h => by
    have h1 : a.val * b.val % 1073735023 = 0 := congrArg Fin.val h
    rcases nt_euclid (p_prime rfl) (Nat.dvd_of_mod_eq_zero h1) with h2 | h2
    · exact Or.inl (Fin.ext (Nat.eq_zero_of_dvd_of_lt h2 a.isLt))
    · exact Or.inr (Fin.ext (Nat.eq_zero_of_dvd_of_lt h2 b.isLt))
  refine ⟨nz, fun a ha => ?_, fun x h => ?_, by decide +kernel, by decide +kernel⟩
  · apply Fin.ext
    show (iv a).val * a.val % 1073735023 = 1
    have h0 : a.val ≠ 0 := fun h => ha (Fin.ext h)
    have := nt_inv (p_prime rfl) (a := a.val) (by rw [Nat.mod_eq_of_lt a.isLt]; exact h0)
    rw [iv_v rfl]
    exact this
  · have h1 : ((x.val * x.val % 1073735023) * x.val % 1073735023 + 7) % 1073735023 = 0 := congrArg Fin.val h
    refine no_cube rfl x.isLt ?_
    rw [Nat.mod_mul_mod] at h1
    omega
