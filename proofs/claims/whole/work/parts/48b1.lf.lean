theorem fv_z : fv (0 : fp) = 0 := rfl
theorem pu_1 {x y z : fp} (h1 : ec_on (some (x, y))) (h2 : ec_on (some (x, z))) : y = z ∨ y + z = 0 := gr_5 fF1 (h1 (x, y) rfl) (h2 (x, z) rfl)
