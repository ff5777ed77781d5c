def pr (y : fp) : Int32 := if fv y % 2 = 1 then 1 else 0
theorem pr_01 (y : fp) : pr y = 0 ∨ pr y = 1 := by unfold pr; split <;> simp
theorem pr_eq {y z : fp} (h : pr y = pr z) : fv y % 2 = fv z % 2 := by
  unfold pr at h
  have := fv_0 y; have := fv_0 z
  by_cases h1 : fv y % 2 = 1
  · by_cases h2 : fv z % 2 = 1
    · omega
    · rw [if_pos h1, if_neg h2] at h; exact absurd h (by decide)
  · by_cases h2 : fv z % 2 = 1
    · rw [if_neg h1, if_pos h2] at h; exact absurd h (by decide)
    · omega
theorem fv_ng {y : fp} (h : 1 ≤ fv y) : fv (0 - y) = 1073735023 - fv y := by
  have := fv_p y
  have h0 : fv (0 : fp) = 0 := by decide +kernel
  rw [fv_sub, h0]
  omega
theorem pr_ng {y : fp} (h : 1 ≤ fv y) : pr (0 - y) ≠ pr y := fun h1 => by
  have := pr_eq h1
  rw [fv_ng h] at this
  have := fv_p y
  omega
theorem pr_other {y : fp} {a : Int32} (h : 1 ≤ fv y) (ha : a = 0 ∨ a = 1) (hn : pr y ≠ a) : pr (0 - y) = a := by
  have h1 := pr_ng h
  have h2 := pr_01 y
  have h3 := pr_01 (0 - y)
  rcases ha with rfl | rfl <;> rcases h2 with e | e <;> rcases h3 with e' | e' <;> simp_all
