theorem md_1 {m a b : Int} (h : (a + b) % m = 0) (h1 : 1 ≤ a) (h2 : a < m) (h3 : 1 ≤ b) (h4 : b < m) : a + b = m := by
  obtain ⟨k, hk⟩ := Int.dvd_of_emod_eq_zero h
  rcases Int.lt_trichotomy k 1 with h5 | h5 | h5
  · exfalso
    have : m * k ≤ m * 0 := Int.mul_le_mul_of_nonneg_left (by omega) (by omega)
    omega
  · subst h5; omega
  · exfalso
    have : m * 2 ≤ m * k := Int.mul_le_mul_of_nonneg_left (by omega) (by omega)
    omega
theorem md_2 {m a b : Int} (hm : m % 2 = 1) (h : (a + b) % m = 0) (h1 : 1 ≤ a) (h2 : a < m) (h3 : 1 ≤ b) (h4 : b < m) (h5 : a % 2 = b % 2) : False := by
  have := md_1 h h1 h2 h3 h4
  omega
theorem par_uniq {x y z : fp} (h1 : ec_on (some (x, y))) (h2 : ec_on (some (x, z))) (h : fv y % 2 = fv z % 2) : y = z := by
  rcases pu_1 h1 h2 with h3 | h3
  · exact h3
  · exact (md_2 (by decide) (pu_2 h3) (on_y h1) (fv_p y) (on_y h2) (fv_p z) h).elim
