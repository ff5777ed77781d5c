theorem gr_5 {K : Type} [Lean.Grind.CommRing K] (nz : ∀ a b : K, a * b = 0 → a = 0 ∨ b = 0) {x y z : K} (h1 : y * y = x * x * x + 7) (h2 : z * z = x * x * x + 7) : y = z ∨ y + z = 0 := by
  have e3 : (y - z) * (y + z) = 0 := (gr_1 y z).trans (gr_2 h1 h2)
  rcases nz _ _ e3 with h3 | h3
  · exact Or.inl (gr_3 h3)
  · exact Or.inr h3
theorem fF1 : ∀ a b : fp, a * b = 0 → a = 0 ∨ b = 0 := fF.1
