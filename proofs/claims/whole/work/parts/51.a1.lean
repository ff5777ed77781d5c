/-! Agreement of the class and the reference: secret, open, code, even, mark, tweak, combine, linear. -/
theorem inv_P {g : sK} {t : sM} (h : inv g t) {k : Nat} (hk : k < 6) : ∃ P : pt, ec_on P ∧ g.1 k = cC P ∧ t.2.1 k = cR P := by
  obtain ⟨PP, h1, h2⟩ := h.1
  exact ⟨PP k, h1 k, (h2 k hk).1, (h2 k hk).2⟩
theorem inv_S {g : sK} {t : sM} (h : inv g t) (k : Nat) : ∃ d : Nat, d < 1073729077 ∧ g.2.1 k = li d ∧ t.2.2.1 k = li d := by
  obtain ⟨d, h1, h2⟩ := h.2.1 k
  exact ⟨d, h1, h2, by rw [h.2.2.2.2.2.1]; exact h2⟩
theorem unit_ex {a : Int32} (h1 : 0 ≤ a.toInt) : ∃ d : Nat, a.toInt = (d : Int) ∧ Int32.toInt64 a = li (d : Int) := by
  obtain ⟨d, h⟩ := Int.eq_ofNat_of_zero_le h1
  exact ⟨d, h, by rw [i64, h]⟩
theorem g_secret : ag_secret inv := by
  intro g o t a0 a1 hI
  rcases sl a0 with ⟨k, hk, rfl⟩ | ⟨e1, e2⟩
  · have hb := i32_b a1
    have hu := s_S_isUnit (z := a1.toInt) (by omega) (by omega)
    have c1 : (a1 < 1) ↔ a1.toInt < 1 := i32_lt (n := 1) (by omega)
    by_cases h : 1 ≤ a1.toInt ∧ a1.toInt < 1073729077
    · rw [if_pos h] at hu
      obtain ⟨d, hd, he⟩ := unit_ex (a := a1) (by omega)
      have hP := on_mu gG_on d
      refine mk_secret (r := cd (mu gG d)) (g1 := fillK g k (cC (mu gG d)) (li d)) (t1 := fillM t 0 k (cR (mu gG d)) (li d)) ?_ ?_ rfl (inv_fill hI hP (by omega) 0 k)
      · unfold f_K_secret
        rw [sl_k k hk, i64, hu, hd, g_C, s_C_multiple gG_on (by omega)]
        simp only [ob, na_1]
        rw [s_K_fill g hk hP]
        simp only [ob]
      · have n1 : ¬ a1 < 1 := fun h9 => absurd (c1.mp h9) (by omega)
        have n2 : lg_cmp (Int32.toInt64 a1) 1073729077 < 0 := by rw [i64, l_q]; exact (lc_lt (by omega) (by omega) (by omega) (by omega)).mpr h.2
        unfold f_M_secret
        rw [sl_m k hk]
        simp only [ob]
        rw [if_neg (by decide), if_neg n1, if_pos n2]
        simp only [ob]
        rw [if_pos (by decide), if_neg (sl_g hk), g_M, he]
        simp only [ob]
        rw [s_M_times gG_on (by omega)]
        simp only [ob]
        rw [if_neg (sl_g hk), if_neg (sl_g hk), sl_c hk, upd_same, s_M_codeOf]
        simp only [ob]
        rfl
    · rw [if_neg h] at hu
      refine mk_secret_IAE (r := 0) (g1 := g) (t1 := thM t 2) ?_ ?_ rfl (inv_th hI 2)
      · unfold f_K_secret
        rw [sl_k k hk, i64, hu]
        simp only [ob, na_0]
      · have n2 : ¬ a1 < 1 → ¬ lg_cmp (Int32.toInt64 a1) 1073729077 < 0 := fun h9 => by
          rw [i64, l_q]
          have h7 : ¬ a1.toInt < 1 := fun h7 => h9 (c1.mpr h7)
          exact fun h8 => h ⟨by omega, (lc_lt (by omega) (by omega) (by omega) (by omega)).mp h8⟩
        unfold f_M_secret
        rw [sl_m k hk]
        simp only [ob]
        rw [if_neg (by decide)]
        by_cases n1 : a1 < 1
        · rw [if_pos n1]
          simp only [ob]
          rw [if_neg (by decide)]
          rfl
        · rw [if_neg n1, if_neg (n2 n1)]
          simp only [ob]
          rw [if_neg (by decide)]
          rfl
  · refine mk_secret_IOOB (r := 0) (g1 := g) (t1 := thM t 1) ?_ ?_ rfl (inv_th hI 1)
    · unfold f_K_secret
      rw [e1]
      simp only [ob]
    · unfold f_M_secret
      rw [e2]
      simp only [ob]
      rfl
theorem g_open : ag_open inv := by
  intro g o t a0 a1 hI
  obtain ⟨z, ⟨hz1, hz2⟩, rfl⟩ := li_ex a1
  rcases sl a0 with ⟨k, hk, rfl⟩ | ⟨e1, e2⟩
  · have hP := fc_on z
    by_cases h : fc z = none
    · refine mk_open_IAE (g1 := g) (t1 := thM t 2) ?_ ?_ rfl (inv_th hI 2)
      · unfold f_K_open
        rw [sl_k k hk, s_C_fromCode hz1 hz2]
        simp only [ob]
        rw [cz_C hP, if_pos h]
        simp only [ob, na_0]
      · unfold f_M_open
        rw [sl_m k hk, s_M_pointOf hz1 hz2]
        simp only [ob]
        rw [if_neg (by decide), if_pos ((cR_0 _).mpr h)]
        simp only [ob]
        rw [if_neg (by decide)]
        simp only [ob]
        rfl
    · refine mk_open (g1 := fillK g k (cC (fc z)) (li ((0 : Nat) : Int))) (t1 := fillM t 0 k (cR (fc z)) (li ((0 : Nat) : Int))) ?_ ?_ rfl (inv_fill hI hP (by omega) 0 k)
      · unfold f_K_open
        rw [sl_k k hk, s_C_fromCode hz1 hz2]
        simp only [ob]
        rw [cz_C hP, if_neg h]
        simp only [ob, na_1]
        rw [s_K_fill g hk hP]
        simp only [ob]
        rfl
      · unfold f_M_open
        rw [sl_m k hk, s_M_pointOf hz1 hz2]
        simp only [ob]
        rw [if_neg (by decide), if_neg (fun h9 => h ((cR_0 _).mp h9))]
        simp only [ob]
        rw [if_pos (by decide), s_M_lay _ hk]
        simp only [ob]
        rfl
  · refine mk_open_IOOB (g1 := g) (t1 := thM t 1) ?_ ?_ rfl (inv_th hI 1)
    · unfold f_K_open
      rw [e1]
      simp only [ob]
    · unfold f_M_open
      rw [e2]
      simp only [ob]
      rw [if_pos (by decide)]
      simp only [ob]
      rw [if_neg (by decide)]
      simp only [ob]
      rfl
theorem g_code : ag_code inv := by
  intro g o t a0 hI
  rcases sl a0 with ⟨k, hk, rfl⟩ | ⟨e1, e2⟩
  · obtain ⟨P, hP, h1, h2⟩ := inv_P hI hk
    refine mk_code (r := cd P) (g1 := g) (t1 := thM t 0) ?_ ?_ rfl (inv_th hI 0)
    · unfold f_K_code
      rw [sl_k k hk]
      simp only [ob]
      rw [if_neg (sl_g hk), sl_c hk, h1, s_C_toCode hP]
      simp only [ob]
    · unfold f_M_code
      rw [sl_m k hk]
      simp only [ob]
      rw [if_neg (by decide)]
      simp only [ob]
      rw [if_pos (by decide), if_neg (sl_g hk), sl_c hk, h2, s_M_codeOf]
      simp only [ob]
      rfl
  · refine mk_code_IOOB (r := 0) (g1 := g) (t1 := thM t 1) ?_ ?_ rfl (inv_th hI 1)
    · unfold f_K_code
      rw [e1]
      simp only [ob]
    · unfold f_M_code
      rw [e2]
      simp only [ob]
      rw [if_pos (by decide)]
      simp only [ob]
      rw [if_neg (by decide)]
      simp only [ob]
      rfl
theorem g_even : ag_even inv := by
  intro g t a0 hI
  have hb := i32_b a0
  refine ⟨cd (lift a0.toInt 0), g, thM t 0, ?_, ?_, inv_th hI 0⟩
  · unfold f_K_even
    rw [i64, s_C_pointAt (by omega) (by omega)]
    simp only [ob]
    rw [s_C_toCode (lift_on _ _)]
    simp only [ob]
  · unfold f_M_even
    rw [i64, s_M_lift (by omega) (by omega)]
    simp only [ob]
    rw [s_M_codeOf]
    simp only [ob]
    rfl
theorem g_mark : ag_mark inv := by
  intro g t hI
  refine ⟨g.2.2.1, g, thM t 0, rfl, ?_, inv_th hI 0⟩
  show some (t.2.2.2.1, thM t 0) = some (g.2.2.1, thM t 0)
  rw [hI.2.2.2.2.2.2.1]
