/-! Roots and quotients. -/
theorem l_pM {M : Nat} (h : M = 1073735023) : (1073735023 : Int64) = li (M : Int) := by subst h; exact l_p
theorem l_nM {M : Nat} (h : M = 1073729077) : (1073729077 : Int64) = li (M : Int) := by subst h; exact l_q
theorem nI_dec (i : Nat) : nI (i + 1) + (-1) = nI i := by
  rw [← Int32.sub_eq_add_neg]
  exact nI_pred i
theorem nI_m1 : nI 0 + (-1) < 0 := by decide
theorem bit_step (E i : Nat) : E / 2 ^ i = 2 * (E / 2 ^ (i + 1)) + E / 2 ^ i % 2 := by
  rw [Nat.pow_succ, ← Nat.div_div_eq_div_mul]
  omega
theorem rt_step (M a E i : Nat) : (if E / 2 ^ i % 2 = 1 then (a ^ (E / 2 ^ (i + 1)) % M * (a ^ (E / 2 ^ (i + 1)) % M) % M) * a % M else a ^ (E / 2 ^ (i + 1)) % M * (a ^ (E / 2 ^ (i + 1)) % M) % M) = a ^ (E / 2 ^ i) % M := by
  have h := bit_step E i
  generalize E / 2 ^ (i + 1) = q at h ⊢
  have h1 : a ^ q % M * (a ^ q % M) % M = a ^ (2 * q) % M := by rw [← Nat.mul_mod, ← Nat.pow_add, Nat.two_mul]
  rw [h1]
  by_cases hb : E / 2 ^ i % 2 = 1
  · rw [if_pos hb, Nat.mod_mul_mod, ← Nat.pow_succ]
    rw [h, show (2 * q + E / 2 ^ i % 2) = (2 * q).succ by omega]
  · rw [if_neg hb, h, show (2 * q + E / 2 ^ i % 2) = 2 * q by omega]
theorem rt_loop {M a : Nat} (hM : M = 1073735023) (ha : a < M) : ∀ (j f : Nat), j ≤ 30 → j < f → ∃ x, f_F_rootIfAny_11 (li a) f (nI j + (-1)) (li ((a ^ (268433756 / 2 ^ j) % M : Nat) : Int)) = some (x, li ((a ^ 268433756 % M : Nat) : Int)) := by
  intro j
  induction j with
  | zero =>
    intro f hj hf
    obtain ⟨f, rfl⟩ : ∃ f', f = f' + 1 := ⟨f - 1, by omega⟩
    rw [f_F_rootIfAny_11, if_pos nI_m1]
    exact ⟨_, by rw [Nat.pow_zero, Nat.div_one]⟩
  | succ i ih =>
    intro f hj hf
    obtain ⟨f, rfl⟩ : ∃ f', f = f' + 1 := ⟨f - 1, by omega⟩
    have hp : ∀ x : Nat, x % M < M := fun x => Nat.mod_lt _ (by omega)
    rw [f_F_rootIfAny_11, nI_dec, if_neg (nI_pos (by omega)), l_pM hM, mm_li (by omega) (hp _) (hp _), l_r]
    rw [show li 268433756 = li ((268433756 : Nat) : Int) from rfl, li_bit (by omega) (by omega)]
    simp only [Option.bind_some]
    rw [mm_li (by omega) (hp _) ha]
    have s := rt_step M a 268433756 i
    by_cases hb : 268433756 / 2 ^ i % 2 = 1
    · have c1 : lg_cmp (li ((268433756 / 2 ^ i % 2 : Nat) : Int)) 1 = 0 := by rw [l_1]; exact (lc_eq (by omega) (by omega) (by omega) (by omega)).mpr (by omega)
      rw [if_pos c1]
      rw [if_pos hb] at s
      simp only [Option.bind_some]
      rw [s]
      exact ih f (by omega) (by omega)
    · have c1 : ¬ lg_cmp (li ((268433756 / 2 ^ i % 2 : Nat) : Int)) 1 = 0 := by rw [l_1]; exact fun h => absurd ((lc_eq (by omega) (by omega) (by omega) (by omega)).mp h) (by omega)
      rw [if_neg c1]
      rw [if_neg hb] at s
      simp only [Option.bind_some]
      rw [s]
      exact ih f (by omega) (by omega)
theorem s_F_root {M a : Nat} (hM : M = 1073735023) (ha : a < M) : f_F_rootIfAny (li a) = some (li ((a ^ 268433756 % M : Nat) : Int)) := by
  unfold f_F_rootIfAny
  obtain ⟨x, h⟩ := rt_loop hM ha 30 64 (by omega) (by omega)
  have e1 : nI 30 + (-1) = 29 := by decide
  have e2 : li ((a ^ (268433756 / 2 ^ 30) % M : Nat) : Int) = 1 := by
    rw [show 268433756 / 2 ^ 30 = 0 by decide, Nat.pow_zero, Nat.mod_eq_of_lt (by omega), l_1]
    rfl
  rw [e1, e2] at h
  rw [h]
  rfl
/-- a quotient -/
def qz (M : Nat) (z : Int) (w : Nat) : Int := (z % M) * ((w ^ (M - 2) % M : Nat) : Int) % M
theorem qz_bd {M : Nat} (hM : 0 < M) (z : Int) (w : Nat) : 0 ≤ qz M z w ∧ qz M z w < M := ⟨Int.emod_nonneg _ (by omega), Int.emod_lt_of_pos _ (by omega)⟩
theorem mi_li {M : Nat} (hM : M < 2147483648) {a b : Int} (h1 : 0 ≤ a) (h2 : a < M) (h3 : 0 ≤ b) (h4 : b < M) : (li a * li b) - (li a * li b) / li M * li M = li (a * b % M) := by
  have q1 := mb h1 h2 h3 h4
  have q2 := cc31 hM
  rw [li_mul, li_remp (by omega) (by omega) (by omega) (by omega)]
theorem s_M_quotient {M : Nat} {z : Int} {w : Nat} (h2 : 2 ≤ M) (hM : M < 2147483648) (hz1 : -9223372036854775808 ≤ z) (hz2 : z < 9223372036854775808) (hw : w < 4611686018427387904) : f_M_quotient (li z) (li w) (li M) = some (li (qz M z w)) := by
  unfold f_M_quotient
  have e1 : li (M : Int) - 2 = li ((M - 2 : Nat) : Int) := by rw [l_2, li_sub, Int.ofNat_sub h2]; rfl
  have hne : ¬ li (M : Int) = 0 := fun h0 => by rw [l_0, li_inj (by omega) (by omega) (by omega) (by omega)] at h0; omega
  have q1 := Int.emod_nonneg z (show (M : Int) ≠ 0 by omega)
  have q2 := Int.emod_lt_of_pos z (show (0 : Int) < M by omega)
  have q3 : w ^ (M - 2) % M < M := Nat.mod_lt _ (by omega)
  rw [s_M_mod hz1 hz2 (by omega) (by omega), e1, s_M_power h2 hM hw (by omega)]
  simp only [Option.bind_some, if_neg hne]
  rw [mi_li hM q1 q2 (by omega) (by omega)]
  rfl
theorem s_F_quotient {M : Nat} (hM : M = 1073735023) (hP : nt_P M) {z w : Int} (hz1 : -9223372036854775808 ≤ z) (hz2 : z < 9223372036854775808) (hw1 : -9223372036854775808 ≤ w) (hw2 : w < 9223372036854775808) : f_F_quotient (li z) (li w) = some (li (qz M z (w % M).toNat)) := by
  unfold f_F_quotient
  have r : ∀ t : Int, -9223372036854775808 ≤ t → t < 9223372036854775808 → f_F_reduced (li t) = some (li (t % M)) := fun t h1 h2 => by
    rw [s_F_reduced h1 h2, hM]; rfl
  have q1 := Int.emod_nonneg z (show (M : Int) ≠ 0 by omega)
  have q2 := Int.emod_lt_of_pos z (show (0 : Int) < M by omega)
  have q3 := Int.emod_nonneg w (show (M : Int) ≠ 0 by omega)
  have q4 := Int.emod_lt_of_pos w (show (0 : Int) < M by omega)
  have q5 : (w % M).toNat ^ (M - 2) % M < M := Nat.mod_lt _ (by omega)
  have e : li (w % M) = li (((w % M).toNat : Nat) : Int) := by rw [Int.toNat_of_nonneg q3]
  rw [r z hz1 hz2, r w hw1 hw2, e, l_pM hM]
  simp only [Option.bind_some]
  rw [s_K_inverse hP (by omega) (by omega) (by omega)]
  simp only [Option.bind_some]
  rw [mi_li (by omega) q1 q2 (by omega) (by omega)]
  rfl
theorem s_S_quotient {M : Nat} (hM : M = 1073729077) (hP : nt_P M) {z w : Nat} (hz : z < 9223372036854775808) (hw : w < M) : f_S_quotient (li z) (li w) = some (li (qz M z w)) := by
  unfold f_S_quotient
  have q1 := Int.emod_nonneg z (show (M : Int) ≠ 0 by omega)
  have q2 := Int.emod_lt_of_pos z (show (0 : Int) < M by omega)
  have q5 : w ^ (M - 2) % M < M := Nat.mod_lt _ (by omega)
  rw [l_nM hM, s_K_inverse hP (by omega) (by omega) hw]
  simp only [Option.bind_some]
  rw [li_remp (by omega) (by omega) (by omega) (by omega), mi_li (by omega) q1 q2 (by omega) (by omega)]
  rfl
