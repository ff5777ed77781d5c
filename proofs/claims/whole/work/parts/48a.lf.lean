/-! Orders; lifting; codes. -/
theorem gr_1 {K : Type} [Lean.Grind.CommRing K] (y z : K) : (y - z) * (y + z) = y * y - z * z := by grind
theorem gr_2 {K : Type} [Lean.Grind.CommRing K] {a b c : K} (h1 : a = c) (h2 : b = c) : a - b = 0 := by grind
theorem gr_3 {K : Type} [Lean.Grind.CommRing K] {y z : K} (h : y - z = 0) : y = z := by grind
theorem gr_4 {K : Type} [Lean.Grind.CommRing K] (y : K) : (0 - y) * (0 - y) = y * y := by grind
theorem ad_0 (P : pt) : ad none P = P := rfl
theorem mu_G {N : Nat} (hN : N = 1073729077) : mu gG N = none := by
  have h := mf_spec 30 none gG N gG_on on_none (by rw [hN]; decide)
  have h0 : mf 30 none gG N = none := by rw [hN]; exact ng_0
  rw [h0, ad_0] at h
  exact h.symm
theorem mu_Gm {N : Nat} (hN : N = 1073729077) (k : Nat) : mu gG (k % N) = mu gG k := ec_n_mod fF gG_on (mu_G hN) k
