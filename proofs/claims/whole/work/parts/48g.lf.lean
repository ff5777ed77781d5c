/-- the point with this x whose y is odd (a = 1) or even (a = 0) -/
def lift (x : Int) (a : Int32) : pt :=
  if 0 ≤ x ∧ x < 1073735023 then
    (if rt (fz x * fz x * fz x + 7) * rt (fz x * fz x * fz x + 7) = fz x * fz x * fz x + 7 then some (fz x, if pr (rt (fz x * fz x * fz x + 7)) = a then rt (fz x * fz x * fz x + 7) else 0 - rt (fz x * fz x * fz x + 7)) else none)
  else none
theorem ng_on {x y : fp} (h : ec_on (some (x, y))) : ec_on (some (x, 0 - y)) := fun p hp => by
  cases hp
  have h1 : y * y = x * x * x + 7 := h (x, y) rfl
  exact (gr_4 y).trans h1
theorem lift_on (x : Int) (a : Int32) : ec_on (lift x a) := by
  unfold lift
  split
  · split
    · rename_i h
      have h0 : ec_on (some (fz x, rt (fz x * fz x * fz x + 7))) := fun p hp => by cases hp; exact h
      split
      · exact h0
      · exact ng_on h0
    · exact on_none
  · exact on_none
theorem lift_uniq {x y : fp} (h : ec_on (some (x, y))) : lift (fv x) (pr y) = some (x, y) := by
  have h1 : y * y = x * x * x + 7 := h (x, y) rfl
  unfold lift
  rw [if_pos ⟨fv_0 x, fv_p x⟩, fz_fv]
  have h2 := rt_sq h1
  rw [if_pos h2]
  have h0 : ec_on (some (x, rt (x * x * x + 7))) := fun p hp => by cases hp; exact h2
  generalize rt (x * x * x + 7) = r at h0 ⊢
  split
  · rename_i h3
    rw [par_uniq h0 h (pr_eq h3)]
  · rename_i h3
    rw [par_uniq (ng_on h0) h (pr_eq (pr_other (on_y h0) (pr_01 y) h3))]
