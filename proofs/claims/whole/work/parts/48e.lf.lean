theorem rt_sq {y v : fp} (h : y * y = v) : rt v * rt v = v := by
  obtain ⟨M, hM⟩ : ∃ M : Nat, M = 1073735023 := ⟨_, rfl⟩
  have hE : 4 * 268433756 = M + 1 := by omega
  generalize hEe : 268433756 = E at hE
  have hv : v.val = y.val * y.val % M := by rw [← h, hM]; rfl
  have h1 : (rt v).val * (rt v).val % M = v.val := by
    rw [rt_v hM, hEe, ← Nat.mul_mod, ← Nat.pow_add, hv, ← Nat.pow_mod]
    have e : (y.val * y.val) ^ (E + E) = y.val ^ M * y.val := by
      rw [← Nat.pow_two, ← Nat.pow_mul, ← Nat.pow_succ]
      congr 1
      omega
    rw [e, Nat.mul_mod, nt_fermat (p_prime hM), ← Nat.mul_mod]
  apply Fin.ext
  show (rt v).val * (rt v).val % 1073735023 = v.val
  rw [hM] at h1
  exact h1
