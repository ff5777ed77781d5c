theorem pu_2 {y z : fp} (h : y + z = 0) : (fv y + fv z) % 1073735023 = 0 := (fv_add y z).symm.trans ((congrArg fv h).trans fv_z)
