/-! roots in the field -/
def rt (v : fp) : fp := ⟨nt_pw 1073735023 30 1 v.val 268433756 % 1073735023, Nat.mod_lt _ (by decide)⟩
theorem rt_v {M : Nat} (hM : M = 1073735023) (v : fp) : (rt v).val = v.val ^ 268433756 % M := by
  have h := nt_pw_spec M 30 1 v.val 268433756 (by decide)
  rw [Nat.one_mul] at h
  rw [← h]
  subst hM
  rfl
theorem rt_fv {M : Nat} (hM : M = 1073735023) (v : fp) : li (fv (rt v)) = li ((v.val ^ 268433756 % M : Nat) : Int) := by
  show li ((rt v).val : Int) = _
  rw [rt_v hM]
