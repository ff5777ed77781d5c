/-! Points as the class and the reference keep them; their sums. -/
theorem ob {α β : Type} (a : α) (f : α → Option β) : Option.bind (some a) f = f a := Eq.trans (Option.bind_some a f) (Eq.refl (f a))
abbrev pt : Type := Option (fp × fp)
abbrev ad : pt → pt → pt := ec_ad iv
abbrev mu (P : pt) (k : Nat) : pt := ec_n iv P k
def cC : pt → Int64
  | none => 0
  | some p => li (fv p.1 * 4294967296 + fv p.2)
def cR : pt → Int64
  | none => -1
  | some p => li (fv p.1 * 2147483648 + fv p.2)
theorem on_y {x y : fp} (h : ec_on (some (x, y))) : 1 ≤ fv y := by
  have h1 : y * y = x * x * x + 7 := h (x, y) rfl
  have h2 := ec_y0 fF h1
  have h3 := fv_0 y
  rcases Int.lt_or_eq_of_le h3 with h4 | h4
  · omega
  · exact absurd (fv_inj (h4.symm.trans (show (0 : Int) = fv 0 from by decide +kernel))) h2
theorem cC_some (x y : fp) : cC (some (x, y)) = li (fv x * 4294967296 + fv y) := rfl
theorem cR_some (x y : fp) : cR (some (x, y)) = li (fv x * 2147483648 + fv y) := rfl
theorem s_C_xOf (x y : fp) : f_C_xOf (cC (some (x, y))) = some (li (fv x)) := by
  have h1 := fv_0 x; have h2 := fv_p x; have h3 := fv_0 y; have h4 := fv_p y
  unfold f_C_xOf
  rw [cC_some, l_w, li_divp (by omega) (by omega) (by omega) (by omega)]
  rw [show (fv x * 4294967296 + fv y) / 4294967296 = fv x by omega]
theorem s_C_yOf (x y : fp) : f_C_yOf (cC (some (x, y))) = some (li (fv y)) := by
  have h1 := fv_0 x; have h2 := fv_p x; have h3 := fv_0 y; have h4 := fv_p y
  unfold f_C_yOf
  rw [cC_some, l_w, li_remp (by omega) (by omega) (by omega) (by omega)]
  rw [show (fv x * 4294967296 + fv y) % 4294967296 = fv y by omega]
theorem s_M_xOf (x y : fp) : f_M_xOf (cR (some (x, y))) = some (li (fv x)) := by
  have h1 := fv_0 x; have h2 := fv_p x; have h3 := fv_0 y; have h4 := fv_p y
  unfold f_M_xOf
  rw [cR_some, l_v, li_divp (by omega) (by omega) (by omega) (by omega)]
  rw [show (fv x * 2147483648 + fv y) / 2147483648 = fv x by omega]
theorem s_M_yOf (x y : fp) : f_M_yOf (cR (some (x, y))) = some (li (fv y)) := by
  have h1 := fv_0 x; have h2 := fv_p x; have h3 := fv_0 y; have h4 := fv_p y
  unfold f_M_yOf
  rw [cR_some, l_v, li_remp (by omega) (by omega) (by omega) (by omega)]
  rw [show (fv x * 2147483648 + fv y) % 2147483648 = fv y by omega]
theorem cC_0 {P : pt} (h : ec_on P) : (lg_cmp (cC P) 0 = 0) ↔ P = none := by
  cases P with
  | none => exact ⟨fun _ => rfl, fun _ => by decide⟩
  | some p =>
    obtain ⟨x, y⟩ := p
    have h1 := fv_0 x; have h2 := fv_p x; have h3 := on_y h; have h4 := fv_p y
    rw [cC_some, l_0, lc_eq (by omega) (by omega) (by omega) (by omega)]
    exact ⟨fun h => by omega, fun h => by cases h⟩
theorem cR_0 (P : pt) : (lg_cmp (cR P) (-1) = 0) ↔ P = none := by
  cases P with
  | none => exact ⟨fun _ => rfl, fun _ => by decide⟩
  | some p =>
    obtain ⟨x, y⟩ := p
    have h1 := fv_0 x; have h2 := fv_p x; have h3 := fv_0 y; have h4 := fv_p y
    rw [cR_some, l_m, lc_eq (by omega) (by omega) (by omega) (by omega)]
    exact ⟨fun h => by omega, fun h => by cases h⟩
theorem cC_eq {P Q : pt} (hP : ec_on P) (hQ : ec_on Q) : (lg_cmp (cC P) (cC Q) = 0) ↔ P = Q := by
  cases Q with
  | none => exact cC_0 hP
  | some q =>
    cases P with
    | none =>
      constructor
      · intro h
        rw [lg_cmp_eq] at h
        have := (cC_0 hQ).mp (by rw [← h]; decide)
        cases this
      · intro h; cases h
    | some p =>
      obtain ⟨x1, y1⟩ := p
      obtain ⟨x2, y2⟩ := q
      have h1 := fv_0 x1; have h2 := fv_p x1; have h3 := fv_0 y1; have h4 := fv_p y1
      have h5 := fv_0 x2; have h6 := fv_p x2; have h7 := fv_0 y2; have h8 := fv_p y2
      rw [cC_some, cC_some, lc_eq (by omega) (by omega) (by omega) (by omega)]
      constructor
      · intro h
        rw [fv_inj (show fv x1 = fv x2 by omega), fv_inj (show fv y1 = fv y2 by omega)]
      · intro h; cases h; rfl
theorem cR_eq (P Q : pt) : (lg_cmp (cR P) (cR Q) = 0) ↔ P = Q := by
  cases Q with
  | none => exact cR_0 P
  | some q =>
    cases P with
    | none =>
      constructor
      · intro h
        rw [lg_cmp_eq] at h
        have := (cR_0 (some q)).mp (by rw [← h]; decide)
        cases this
      · intro h; cases h
    | some p =>
      obtain ⟨x1, y1⟩ := p
      obtain ⟨x2, y2⟩ := q
      have h1 := fv_0 x1; have h2 := fv_p x1; have h3 := fv_0 y1; have h4 := fv_p y1
      have h5 := fv_0 x2; have h6 := fv_p x2; have h7 := fv_0 y2; have h8 := fv_p y2
      rw [cR_some, cR_some, lc_eq (by omega) (by omega) (by omega) (by omega)]
      constructor
      · intro h
        rw [fv_inj (show fv x1 = fv x2 by omega), fv_inj (show fv y1 = fv y2 by omega)]
      · intro h; cases h; rfl
theorem pb {a b : Int} (h1 : 0 ≤ a) (h2 : a < 1073735023) (h3 : -1073735023 < b) (h4 : b < 1073735023) : -1152906899617530529 ≤ a * b ∧ a * b ≤ 1152906899617530529 := by
  have q1 : a * b ≤ a * 1073735023 := Int.mul_le_mul_of_nonneg_left (by omega) h1
  have q2 : a * (-1073735023) ≤ a * b := Int.mul_le_mul_of_nonneg_left (by omega) h1
  omega
/-- the third point, the class's way -/
theorem s_C_third (L x1 y1 x2 : fp) : Option.bind (f_F_reduced (((li (fv L) * li (fv L)) - li (fv x1)) - li (fv x2))) (fun r8 => Option.bind (f_F_reduced ((li (fv L) * (li (fv x1) - r8)) - li (fv y1))) (fun r9 => some ((r8 * 4294967296) + r9))) = some (cC (some (ec_ln L x1 y1 x2))) := by
  have a1 := fv_0 L; have a2 := fv_p L; have a3 := fv_0 x1; have a4 := fv_p x1; have a5 := fv_0 x2; have a6 := fv_p x2; have a7 := fv_0 y1; have a8 := fv_p y1
  have b1 := pb a1 a2 (show -1073735023 < fv L by omega) a2
  rw [li_mul, li_sub, li_sub, s_F_reduced (by omega) (by omega)]
  simp only [ob]
  have e1 : (fv L * fv L - fv x1 - fv x2) % 1073735023 = fv (L * L - x1 - x2) := fe (by rw [fz_sub, fz_sub, fz_mul, fz_fv, fz_fv, fz_fv])
  rw [e1]
  have a9 := fv_0 (L * L - x1 - x2); have a10 := fv_p (L * L - x1 - x2)
  have b2 := pb a1 a2 (show -1073735023 < fv x1 - fv (L * L - x1 - x2) by omega) (by omega)
  rw [li_sub, li_mul, li_sub, s_F_reduced (by omega) (by omega)]
  simp only [ob]
  have e2 : (fv L * (fv x1 - fv (L * L - x1 - x2)) - fv y1) % 1073735023 = fv (L * (x1 - (L * L - x1 - x2)) - y1) := fe (by rw [fz_sub, fz_mul, fz_sub, fz_fv, fz_fv, fz_fv, fz_fv])
  rw [e2, l_w, li_mul, li_add]
  rfl
theorem s_M_third (L x1 y1 x2 : fp) : Option.bind (f_M_mod ((((li (fv L) * li (fv L)) - (li (fv L) * li (fv L)) / 1073735023 * 1073735023) - li (fv x1)) - li (fv x2)) 1073735023) (fun r13 => Option.bind (f_M_mod (li (fv x1) - r13) 1073735023) (fun r14 => Option.bind (f_M_mod (((li (fv L) * r14) - (li (fv L) * r14) / 1073735023 * 1073735023) - li (fv y1)) 1073735023) (fun r15 => some ((r13 * 2147483648) + r15)))) = some (cR (some (ec_ln L x1 y1 x2))) := by
  have a1 := fv_0 L; have a2 := fv_p L; have a3 := fv_0 x1; have a4 := fv_p x1; have a5 := fv_0 x2; have a6 := fv_p x2; have a7 := fv_0 y1; have a8 := fv_p y1
  have b1 := pb a1 a2 (show -1073735023 < fv L by omega) a2
  have b1' := (mb a1 a2 a1 a2).1
  rw [l_p, li_mul, li_remp (by omega) (by omega) (by omega) (by omega), li_sub, li_sub, s_M_mod (by omega) (by omega) (by omega) (by omega)]
  simp only [ob]
  have e1 : (fv L * fv L % 1073735023 - fv x1 - fv x2) % 1073735023 = fv (L * L - x1 - x2) := fe (by rw [fz_sub, fz_sub, fz_mod, fz_mul, fz_fv, fz_fv, fz_fv])
  rw [e1]
  have a9 := fv_0 (L * L - x1 - x2); have a10 := fv_p (L * L - x1 - x2)
  rw [li_sub, s_M_mod (by omega) (by omega) (by omega) (by omega)]
  simp only [ob]
  have e2 : (fv x1 - fv (L * L - x1 - x2)) % 1073735023 = fv (x1 - (L * L - x1 - x2)) := fe (by rw [fz_sub, fz_fv, fz_fv])
  rw [e2]
  have a11 := fv_0 (x1 - (L * L - x1 - x2)); have a12 := fv_p (x1 - (L * L - x1 - x2))
  have b2 := pb a1 a2 (show -1073735023 < fv (x1 - (L * L - x1 - x2)) by omega) a12
  have b2' := (mb a1 a2 a11 a12).1
  rw [li_mul, li_remp (by omega) (by omega) (by omega) (by omega), li_sub, s_M_mod (by omega) (by omega) (by omega) (by omega)]
  simp only [ob]
  have e3 : (fv L * fv (x1 - (L * L - x1 - x2)) % 1073735023 - fv y1) % 1073735023 = fv (L * (x1 - (L * L - x1 - x2)) - y1) := fe (by rw [fz_sub, fz_mod, fz_mul, fz_fv, fz_fv, fz_fv])
  rw [e3, l_v, li_mul, li_add]
  rfl
theorem q_C_dbl (x1 y1 : fp) : f_F_quotient ((3 * li (fv x1)) * li (fv x1)) (2 * li (fv y1)) = some (li (fv (3 * (x1 * x1) * iv (y1 + y1)))) := by
  have a3 := fv_0 x1; have a4 := fv_p x1; have a7 := fv_0 y1; have a8 := fv_p y1
  have b1 := pb a3 a4 (show -1073735023 < fv x1 by omega) a4
  have e0 : 3 * fv x1 * fv x1 = 3 * (fv x1 * fv x1) := Int.mul_assoc _ _ _
  obtain ⟨M, hM⟩ : ∃ M : Nat, M = 1073735023 := ⟨_, rfl⟩
  rw [l_3, l_2, li_mul, li_mul, li_mul, e0, s_F_quotient hM (p_prime hM) (by omega) (by omega) (by omega) (by omega), qz_fz hM]
  have h1 : fz ((2 * fv y1 % (M : Int)).toNat : Int) = y1 + y1 := by
    rw [Int.toNat_of_nonneg (Int.emod_nonneg _ (by omega)), show (M : Int) = 1073735023 by omega, fz_mod, fz_mul, fz_fv, fz_2]
  rw [h1, fz_mul, fz_mul, fz_fv, fz_3]
theorem q_C_chd (x1 y1 x2 y2 : fp) : f_F_quotient (li (fv y2) - li (fv y1)) (li (fv x2) - li (fv x1)) = some (li (fv ((y2 - y1) * iv (x2 - x1)))) := by
  have a3 := fv_0 x1; have a4 := fv_p x1; have a7 := fv_0 y1; have a8 := fv_p y1
  have a5 := fv_0 x2; have a6 := fv_p x2; have a9 := fv_0 y2; have a10 := fv_p y2
  obtain ⟨M, hM⟩ : ∃ M : Nat, M = 1073735023 := ⟨_, rfl⟩
  rw [li_sub, li_sub, s_F_quotient hM (p_prime hM) (by omega) (by omega) (by omega) (by omega), qz_fz hM]
  have h1 : fz (((fv x2 - fv x1) % (M : Int)).toNat : Int) = x2 - x1 := by
    rw [Int.toNat_of_nonneg (Int.emod_nonneg _ (by omega)), show (M : Int) = 1073735023 by omega, fz_mod, fz_sub, fz_fv, fz_fv]
  rw [h1, fz_sub, fz_fv, fz_fv]
theorem q_M_dbl (x1 y1 : fp) : f_M_quotient (3 * ((li (fv x1) * li (fv x1)) - (li (fv x1) * li (fv x1)) / 1073735023 * 1073735023)) (2 * li (fv y1)) 1073735023 = some (li (fv (3 * (x1 * x1) * iv (y1 + y1)))) := by
  have a3 := fv_0 x1; have a4 := fv_p x1; have a7 := fv_0 y1; have a8 := fv_p y1
  have b1 := pb a3 a4 (show -1073735023 < fv x1 by omega) a4
  have b1' := (mb a3 a4 a3 a4).1
  obtain ⟨M, hM⟩ : ∃ M : Nat, M = 1073735023 := ⟨_, rfl⟩
  have e2 : li (2 * fv y1) = li (((2 * fv y1).toNat : Nat) : Int) := by rw [Int.toNat_of_nonneg (by omega)]
  rw [l_3, l_2, l_p, li_mul, li_remp (by omega) (by omega) (by omega) (by omega), li_mul, li_mul, e2, show (1073735023 : Int) = (M : Int) by omega]
  have q1 := Int.emod_nonneg (fv x1 * fv x1) (show (M : Int) ≠ 0 by omega)
  have q2 := Int.emod_lt_of_pos (fv x1 * fv x1) (show (0 : Int) < M by omega)
  rw [s_M_quotient (by omega) (by omega) (by omega) (by omega) (by omega), qz_fz hM]
  rw [Int.toNat_of_nonneg (show 0 ≤ 2 * fv y1 by omega), show (M : Int) = 1073735023 by omega, fz_mul, fz_mod, fz_mul, fz_fv, fz_mul, fz_fv, fz_2, fz_3]
theorem q_M_chd (x1 y1 x2 y2 : fp) : Option.bind (f_M_mod (li (fv x2) - li (fv x1)) 1073735023) (fun r16 => Option.bind (f_M_quotient (li (fv y2) - li (fv y1)) r16 1073735023) (fun r17 => some (r17))) = some (li (fv ((y2 - y1) * iv (x2 - x1)))) := by
  have a3 := fv_0 x1; have a4 := fv_p x1; have a7 := fv_0 y1; have a8 := fv_p y1
  have a5 := fv_0 x2; have a6 := fv_p x2; have a9 := fv_0 y2; have a10 := fv_p y2
  obtain ⟨M, hM⟩ : ∃ M : Nat, M = 1073735023 := ⟨_, rfl⟩
  rw [l_p, li_sub, li_sub, show (1073735023 : Int) = (M : Int) by omega, s_M_mod (by omega) (by omega) (by omega) (by omega)]
  simp only [ob]
  have q1 := Int.emod_nonneg (fv x2 - fv x1) (show (M : Int) ≠ 0 by omega)
  have q2 := Int.emod_lt_of_pos (fv x2 - fv x1) (show (0 : Int) < M by omega)
  have e2 : li ((fv x2 - fv x1) % M) = li ((((fv x2 - fv x1) % M).toNat : Nat) : Int) := by rw [Int.toNat_of_nonneg q1]
  rw [e2, s_M_quotient (by omega) (by omega) (by omega) (by omega) (by omega), qz_fz hM]
  simp only [ob]
  rw [Int.toNat_of_nonneg q1, show (M : Int) = 1073735023 by omega, fz_mod, fz_sub, fz_sub, fz_fv, fz_fv, fz_fv, fz_fv]
theorem lx {x1 x2 : fp} : (lg_cmp (li (fv x1)) (li (fv x2)) = 0) ↔ x1 = x2 := by
  have a3 := fv_0 x1; have a4 := fv_p x1; have a5 := fv_0 x2; have a6 := fv_p x2
  rw [lc_eq (by omega) (by omega) (by omega) (by omega)]
  exact ⟨fv_inj, fun h => by rw [h]⟩
theorem s_C_sum {P Q : pt} (hP : ec_on P) (hQ : ec_on Q) : f_C_sum (cC P) (cC Q) = some (cC (ad P Q)) := by
  unfold f_C_sum
  cases P with
  | none => rw [if_pos ((cC_0 hP).mpr rfl)]; rfl
  | some p =>
    rw [if_neg (fun h => absurd ((cC_0 hP).mp h) (by intro h; cases h))]
    cases Q with
    | none => rw [if_pos ((cC_0 hQ).mpr rfl)]; rfl
    | some q =>
      rw [if_neg (fun h => absurd ((cC_0 hQ).mp h) (by intro h; cases h))]
      obtain ⟨x1, y1⟩ := p
      obtain ⟨x2, y2⟩ := q
      simp only [s_C_xOf, s_C_yOf, ob]
      by_cases hx : x1 = x2
      · rw [if_pos (lx.mpr hx)]
        subst hx
        by_cases hy : y1 = y2
        · subst hy
          have c : lg_cmp (cC (some (x1, y1))) (cC (some (x1, y1))) = 0 := (cC_eq hP hQ).mpr rfl
          rw [if_pos c, if_pos c, q_C_dbl]
          simp only [ob]
          rw [s_C_third]
          show _ = some (cC (ec_ad iv _ _))
          rw [ec_ad_some, if_pos rfl, if_pos rfl]
        · have c : ¬ lg_cmp (cC (some (x1, y1))) (cC (some (x1, y2))) = 0 := fun h => hy (by have := (cC_eq hP hQ).mp h; cases this; rfl)
          rw [if_neg c]
          show _ = some (cC (ec_ad iv _ _))
          rw [ec_ad_some, if_pos rfl, if_neg hy]
          rfl
      · have c : ¬ lg_cmp (cC (some (x1, y1))) (cC (some (x2, y2))) = 0 := fun h => hx (by have := (cC_eq hP hQ).mp h; cases this; rfl)
        rw [if_neg (fun h => hx (lx.mp h)), if_neg c, q_C_chd]
        simp only [ob]
        rw [s_C_third]
        show _ = some (cC (ec_ad iv _ _))
        rw [ec_ad_some, if_neg hx]
theorem s_M_sum (P Q : pt) : f_M_sum (cR P) (cR Q) = some (cR (ad P Q)) := by
  unfold f_M_sum
  cases P with
  | none => rw [if_pos ((cR_0 _).mpr rfl), if_pos ((cR_0 _).mpr rfl)]; rfl
  | some p =>
    have n1 : ¬ lg_cmp (cR (some p)) (-1) = 0 := fun h => absurd ((cR_0 _).mp h) (by intro h; cases h)
    rw [if_neg n1, if_neg n1]
    cases Q with
    | none => rw [if_pos ((cR_0 _).mpr rfl)]; rfl
    | some q =>
      rw [if_neg (fun h => absurd ((cR_0 _).mp h) (by intro h; cases h))]
      obtain ⟨x1, y1⟩ := p
      obtain ⟨x2, y2⟩ := q
      simp only [s_M_xOf, s_M_yOf, ob]
      by_cases hx : x1 = x2
      · rw [if_pos (lx.mpr hx)]
        subst hx
        by_cases hy : y1 = y2
        · subst hy
          rw [if_pos (lx.mpr rfl), if_pos (lx.mpr rfl), q_M_dbl]
          simp only [ob]
          rw [s_M_third]
          show _ = some (cR (ec_ad iv _ _))
          rw [ec_ad_some, if_pos rfl, if_pos rfl]
        · rw [if_neg (fun h => hy (lx.mp h))]
          show _ = some (cR (ec_ad iv _ _))
          rw [ec_ad_some, if_pos rfl, if_neg hy]
          rfl
      · rw [if_neg (fun h => hx (lx.mp h)), if_neg (fun h => hx (lx.mp h)), q_M_chd]
        simp only [ob]
        rw [s_M_third]
        show _ = some (cR (ec_ad iv _ _))
        rw [ec_ad_some, if_neg hx]
