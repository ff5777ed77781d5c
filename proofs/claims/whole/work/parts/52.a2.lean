/-! tweak, combine, linear -/
def mvd (s d : Nat) (a2 : Int32) : Nat := if s = 0 then 0 else if a2 = 0 then (s + d) % 1073729077 else (s * d) % 1073729077
theorem mvd_b (s d : Nat) (a2 : Int32) : mvd s d a2 < 1073729077 := by
  unfold mvd
  split
  · omega
  · split
    · exact Nat.mod_lt _ (by decide)
    · exact Nat.mod_lt _ (by decide)
theorem nmod_add {s d : Nat} (hs : s < 1073729077) (hd : d < 1073729077) : (li s + li d) - (li s + li d) / 1073729077 * 1073729077 = li (((s + d) % 1073729077 : Nat) : Int) := by
  rw [l_q, li_add, li_remp (by omega) (by omega) (by omega) (by omega), Int.natCast_emod, Int.natCast_add]
  rfl
theorem nmod_mul {s d : Nat} (hs : s < 1073729077) (hd : d < 1073729077) : (li s * li d) - (li s * li d) / 1073729077 * 1073729077 = li (((s * d) % 1073729077 : Nat) : Int) := by
  have h := mm_li (M := 1073729077) (by decide) hs hd
  rw [l_q]
  exact h
theorem s_moved {s d : Nat} (hs : s < 1073729077) (hd : d < 1073729077) (a2 : Int32) : f_K_movedSecret (li s) (li d) a2 = some (li (mvd s d a2 : Nat)) := by
  unfold f_K_movedSecret mvd
  by_cases h : s = 0
  · subst h
    rw [if_pos (by decide), if_pos (by decide)]
    rfl
  · rw [if_neg (li_ne0 hs h), if_neg h]
    by_cases h2 : a2 = 0
    · rw [if_pos h2, if_pos h2]
      simp only [ob]
      rw [nmod_add hs hd]
    · rw [if_neg h2, if_neg h2]
      simp only [ob]
      rw [nmod_mul hs hd]
def twk (P : pt) (d : Nat) (a2 : Int32) : pt := if a2 = 0 then ad P (mu gG d) else mu P d
theorem twk_on {P : pt} (hP : ec_on P) (d : Nat) (a2 : Int32) : ec_on (twk P d a2) := by
  unfold twk
  split
  · exact on_ad hP (on_mu gG_on d)
  · exact on_mu hP d
theorem g_tweak : ag_tweak inv := by
  intro g o t a0 a1 a2 hI
  rcases sl a0 with ⟨k, hk, rfl⟩ | ⟨e1, e2⟩
  · obtain ⟨P, hP, h1, h2⟩ := inv_P hI hk
    obtain ⟨s, hs, hs1, hs2⟩ := inv_S hI k
    by_cases hn : P = none
    · subst hn
      refine mk_tweak_NSE (r := 0) (g1 := g) (t1 := thM t 2) ?_ ?_ rfl (inv_th hI 2)
      · unfold f_K_tweak
        rw [sl_k k hk, s_K_pointOf_no hk h1]
        simp only [ob]
      · unfold f_M_tweak
        rw [sl_m k hk, s_M_full_no hk h2]
        simp only [ob]
        rfl
    have hb := i32_b a1
    have hu := s_S_has (z := a1.toInt) (by omega) (by omega)
    have hv := s_M_isScalar a1
    by_cases h : 0 ≤ a1.toInt ∧ a1.toInt < 1073729077
    · rw [if_pos h] at hu hv
      obtain ⟨d, hd, he⟩ := unit_ex (a := a1) (by omega)
      have hQ := twk_on hP d a2
      have eK : (if a2 = 0 then (Option.bind (f_C_multiple (Int32.toInt64 a1) 4411025356) (fun r28 => Option.bind (f_C_sum (cC P) r28) (fun r29 => some (r29))) : Option (Int64)) else (Option.bind (f_C_multiple (Int32.toInt64 a1) (cC P)) (fun r30 => some (r30)))) = some (cC (twk P d a2)) := by
        unfold twk
        by_cases h3 : a2 = 0
        · rw [if_pos h3, if_pos h3, he, g_C, s_C_multiple gG_on (by omega)]
          simp only [ob]
          rw [s_C_sum hP (on_mu gG_on d)]
          simp only [ob]
        · rw [if_neg h3, if_neg h3, he, s_C_multiple hP (by omega)]
          simp only [ob]
      have eM : (if a2 = 0 then (if nI k < 0 ∨ 6 ≤ Int32.toNatClampNeg (nI k) then none else (Option.bind (f_M_g ) (fun r30 => Option.bind (f_M_times (Int32.toInt64 a1) r30) (fun r31 => Option.bind (f_M_sum (t.2.1 (Int32.toNatClampNeg (nI k))) r31) (fun r32 => some (r32))))) : Option (Int64)) else (if nI k < 0 ∨ 6 ≤ Int32.toNatClampNeg (nI k) then none else (Option.bind (f_M_times (Int32.toInt64 a1) (t.2.1 (Int32.toNatClampNeg (nI k)))) (fun r34 => some (r34))))) = some (cR (twk P d a2)) := by
        unfold twk
        by_cases h3 : a2 = 0
        · rw [if_pos h3, if_pos h3, if_neg (sl_g hk), sl_c hk, h2, he, g_M]
          simp only [ob]
          rw [s_M_times gG_on (by omega)]
          simp only [ob]
          rw [s_M_sum]
          simp only [ob]
        · rw [if_neg h3, if_neg h3, if_neg (sl_g hk), sl_c hk, h2, he, s_M_times hP (by omega)]
          simp only [ob]
      by_cases hq : twk P d a2 = none
      · refine mk_tweak_IAE (r := 0) (g1 := g) (t1 := thM t 3) ?_ ?_ rfl (inv_th hI 3)
        · unfold f_K_tweak
          rw [sl_k k hk, s_K_pointOf hk hP hn h1]
          simp only [ob]
          rw [eK, i64, hu]
          simp only [ob, na_1]
          rw [cz_C hQ, if_pos hq]
          simp only [ob, na_0]
        · unfold f_M_tweak
          rw [sl_m k hk, s_M_full hk hn h2]
          simp only [ob]
          rw [if_neg (by decide), if_neg (by decide), hv]
          simp only [ob]
          rw [if_neg (by decide)]
          simp only [ob]
          rw [if_pos (by decide), eM]
          simp only [ob]
          rw [if_pos ((cR_0 _).mpr hq)]
          simp only [ob]
          rfl
      · refine mk_tweak (r := cd (twk P d a2)) (g1 := fillK g k (cC (twk P d a2)) (li (mvd s d a2 : Nat))) (t1 := fillM t 0 k (cR (twk P d a2)) (li (mvd s d a2 : Nat))) ?_ ?_ rfl (inv_fill hI hQ (mvd_b _ _ _) 0 k)
        · unfold f_K_tweak
          rw [sl_k k hk, s_K_pointOf hk hP hn h1]
          simp only [ob]
          rw [eK, i64, hu]
          simp only [ob, na_1]
          rw [cz_C hQ, if_neg hq]
          simp only [ob, na_1]
          rw [if_neg (sl_g hk), sl_c hk, hs1, hd, s_moved hs (by omega)]
          simp only [ob]
          rw [s_K_fill g hk hQ]
          simp only [ob]
        · unfold f_M_tweak
          rw [sl_m k hk, s_M_full hk hn h2]
          simp only [ob]
          rw [if_neg (by decide), if_neg (by decide), hv]
          simp only [ob]
          rw [if_neg (by decide)]
          simp only [ob]
          rw [if_pos (by decide), eM]
          simp only [ob]
          rw [if_neg (fun h9 => hq ((cR_0 _).mp h9)), s_M_codeOf]
          simp only [ob]
          rw [if_pos (by decide), if_neg (sl_g hk), if_neg (sl_g hk), if_neg (sl_g hk), sl_c hk, hs2]
          by_cases h0 : s = 0
          · subst h0
            rw [if_pos (by decide)]
            simp only [ob]
            unfold mvd fillM
            rw [if_pos (by decide), upd_id _ _ _ hs2]
          · rw [if_neg (by rw [l_0]; exact fun h9 => absurd ((lc_le (by omega) (by omega) (by omega) (by omega)).mp h9) (by omega))]
            unfold mvd
            rw [if_neg h0, he, nmod_add hs (by omega), nmod_mul hs (by omega)]
            by_cases h3 : a2 = 0
            · rw [if_pos h3, if_pos h3]
              simp only [ob]
              rw [if_neg (sl_h hk)]
              simp only [ob]
              rfl
            · rw [if_neg h3, if_neg h3, if_neg (sl_h hk)]
              simp only [ob]
              rw [if_neg (sl_h hk)]
              simp only [ob]
              rfl
    · rw [if_neg h] at hu hv
      refine mk_tweak_IAE (r := 0) (g1 := g) (t1 := thM t 3) ?_ ?_ rfl (inv_th hI 3)
      · unfold f_K_tweak
        rw [sl_k k hk, s_K_pointOf hk hP hn h1]
        simp only [ob]
        rw [i64, hu]
        simp only [ob, na_0]
      · unfold f_M_tweak
        rw [sl_m k hk, s_M_full hk hn h2]
        simp only [ob]
        rw [if_neg (by decide), if_neg (by decide), hv]
        simp only [ob]
        rfl
  · refine mk_tweak_IOOB (r := 0) (g1 := g) (t1 := thM t 1) ?_ ?_ rfl (inv_th hI 1)
    · unfold f_K_tweak
      rw [e1]
      simp only [ob]
    · unfold f_M_tweak
      rw [e2]
      simp only [ob]
      rfl
theorem g_combine : ag_combine inv := by
  intro g o t a0 a1 a2 hI
  rcases sl a0 with ⟨k, hk, rfl⟩ | ⟨e1, e2⟩
  rotate_left
  · refine mk_combine_IOOB (r := 0) (g1 := g) (t1 := thM t 1) ?_ ?_ rfl (inv_th hI 1)
    · unfold f_K_combine
      rw [e1]
      simp only [ob]
    · unfold f_M_combine
      rw [e2]
      simp only [ob]
      rfl
  rcases sl a1 with ⟨k1, hk1, rfl⟩ | ⟨e1, e2⟩
  rotate_left
  · refine mk_combine_IOOB (r := 0) (g1 := g) (t1 := thM t 1) ?_ ?_ rfl (inv_th hI 1)
    · unfold f_K_combine
      rw [sl_k k hk, e1]
      simp only [ob]
    · unfold f_M_combine
      rw [sl_m k hk, e2]
      simp only [ob]
      rfl
  rcases sl a2 with ⟨k2, hk2, rfl⟩ | ⟨e1, e2⟩
  rotate_left
  · refine mk_combine_IOOB (r := 0) (g1 := g) (t1 := thM t 1) ?_ ?_ rfl (inv_th hI 1)
    · unfold f_K_combine
      rw [sl_k k hk, sl_k k1 hk1, e1]
      simp only [ob]
    · unfold f_M_combine
      rw [sl_m k hk, sl_m k1 hk1, e2]
      simp only [ob]
      rfl
  obtain ⟨P, hP, p1, p2⟩ := inv_P hI hk1
  obtain ⟨Q, hQ, q1, q2⟩ := inv_P hI hk2
  by_cases hn : P = none
  · subst hn
    refine mk_combine_NSE (r := 0) (g1 := g) (t1 := thM t 2) ?_ ?_ rfl (inv_th hI 2)
    · unfold f_K_combine
      rw [sl_k k hk, sl_k k1 hk1, sl_k k2 hk2, s_K_pointOf_no hk1 p1]
      simp only [ob]
    · unfold f_M_combine
      rw [sl_m k hk, sl_m k1 hk1, sl_m k2 hk2, s_M_full_no hk1 p2]
      simp only [ob]
      rfl
  by_cases hm : Q = none
  · subst hm
    refine mk_combine_NSE (r := 0) (g1 := g) (t1 := thM t 2) ?_ ?_ rfl (inv_th hI 2)
    · unfold f_K_combine
      rw [sl_k k hk, sl_k k1 hk1, sl_k k2 hk2, s_K_pointOf hk1 hP hn p1]
      simp only [ob]
      rw [s_K_pointOf_no hk2 q1]
      simp only [ob]
    · unfold f_M_combine
      rw [sl_m k hk, sl_m k1 hk1, sl_m k2 hk2, s_M_full hk1 hn p2]
      simp only [ob]
      rw [s_M_full_no hk2 q2]
      simp only [ob]
      rfl
  have hR := on_ad hP hQ
  have eS : ∀ u : sM, u.2.1 = t.2.1 → f_M_sum (u.2.1 (Int32.toNatClampNeg (nI k1))) (u.2.1 (Int32.toNatClampNeg (nI k2))) = some (cR (ad P Q)) := fun u hu => by
    rw [hu, sl_c hk1, sl_c hk2, p2, q2, s_M_sum]
  have eT := eS t rfl
  by_cases hq : ad P Q = none
  · refine mk_combine_IAE (r := 0) (g1 := g) (t1 := thM t 3) ?_ ?_ rfl (inv_th hI 3)
    · unfold f_K_combine
      rw [sl_k k hk, sl_k k1 hk1, sl_k k2 hk2, s_K_pointOf hk1 hP hn p1]
      simp only [ob]
      rw [s_K_pointOf hk2 hQ hm q1]
      simp only [ob]
      rw [s_C_sum hP hQ]
      simp only [ob]
      rw [cz_C hR, if_pos hq]
      simp only [ob, na_0]
    · unfold f_M_combine
      rw [sl_m k hk, sl_m k1 hk1, sl_m k2 hk2, s_M_full hk1 hn p2]
      simp only [ob]
      rw [s_M_full hk2 hm q2]
      simp only [ob]
      rw [if_neg (by decide), if_neg (by decide), if_neg (by decide), if_neg (by decide), if_neg (by decide), if_neg (sl_g hk1), if_neg (sl_g hk2), eT]
      simp only [ob]
      rw [if_pos ((cR_0 _).mpr hq)]
      simp only [ob]
      rfl
  · refine mk_combine (r := cd (ad P Q)) (g1 := fillK g k (cC (ad P Q)) (li ((0 : Nat) : Int))) (t1 := fillM t 0 k (cR (ad P Q)) (li ((0 : Nat) : Int))) ?_ ?_ rfl (inv_fill hI hR (by omega) 0 k)
    · unfold f_K_combine
      rw [sl_k k hk, sl_k k1 hk1, sl_k k2 hk2, s_K_pointOf hk1 hP hn p1]
      simp only [ob]
      rw [s_K_pointOf hk2 hQ hm q1]
      simp only [ob]
      rw [s_C_sum hP hQ]
      simp only [ob]
      rw [cz_C hR, if_neg hq]
      simp only [ob, na_1]
      rw [s_K_fill g hk hR]
      simp only [ob]
      rfl
    · unfold f_M_combine
      rw [sl_m k hk, sl_m k1 hk1, sl_m k2 hk2, s_M_full hk1 hn p2]
      simp only [ob]
      rw [s_M_full hk2 hm q2]
      simp only [ob]
      rw [if_neg (by decide), if_neg (by decide), if_neg (by decide), if_neg (by decide), if_neg (by decide), if_neg (sl_g hk1), if_neg (sl_g hk2), eT]
      simp only [ob]
      rw [if_neg (fun h9 => hq ((cR_0 _).mp h9))]
      simp only [ob]
      rw [if_pos (by decide), if_neg (sl_g hk1), if_neg (sl_g hk2), eT]
      simp only [ob]
      rw [s_M_lay _ hk]
      simp only [ob]
      rw [if_neg (sl_g hk), sl_c hk]
      have e9 : f_M_codeOf ((fillM (0, t.2.1, t.2.2.1, t.2.2.2.1, t.2.2.2.2.1, t.2.2.2.2.2.1, t.2.2.2.2.2.2.1, t.2.2.2.2.2.2.2.1, t.2.2.2.2.2.2.2.2.1, t.2.2.2.2.2.2.2.2.2.1, t.2.2.2.2.2.2.2.2.2.2.1, t.2.2.2.2.2.2.2.2.2.2.2.1, t.2.2.2.2.2.2.2.2.2.2.2.2) 0 k (cR (ad P Q)) 0).2.1 k) = some (cd (ad P Q)) := by
        show f_M_codeOf (vp_updL t.2.1 k (cR (ad P Q)) k) = _
        rw [upd_same, s_M_codeOf]
      rw [e9]
      simp only [ob]
      rfl
theorem g_linear : ag_linear inv := by
  intro g o t a0 a1 a2 hI
  rcases sl a0 with ⟨k, hk, rfl⟩ | ⟨e1, e2⟩
  rotate_left
  · refine mk_linear_IOOB (r := 0) (g1 := g) (t1 := thM t 1) ?_ ?_ rfl (inv_th hI 1)
    · unfold f_K_linear
      rw [e1]
      simp only [ob]
    · unfold f_M_linear
      rw [e2]
      simp only [ob]
      rfl
  obtain ⟨P, hP, h1, h2⟩ := inv_P hI hk
  by_cases hn : P = none
  · subst hn
    refine mk_linear_NSE (r := 0) (g1 := g) (t1 := thM t 2) ?_ ?_ rfl (inv_th hI 2)
    · unfold f_K_linear
      rw [sl_k k hk, s_K_pointOf_no hk h1]
      simp only [ob]
    · unfold f_M_linear
      rw [sl_m k hk, s_M_full_no hk h2]
      simp only [ob]
      rfl
  have hb1 := i32_b a1
  have hb2 := i32_b a2
  have hu1 := s_S_has (z := a1.toInt) (by omega) (by omega)
  have hv1 := s_M_isScalar a1
  have hu2 := s_S_has (z := a2.toInt) (by omega) (by omega)
  have hv2 := s_M_isScalar a2
  by_cases c1 : 0 ≤ a1.toInt ∧ a1.toInt < 1073729077
  · rw [if_pos c1] at hu1 hv1
    by_cases c2 : 0 ≤ a2.toInt ∧ a2.toInt < 1073729077
    · rw [if_pos c2] at hu2 hv2
      obtain ⟨d1, hd1, he1⟩ := unit_ex (a := a1) (by omega)
      obtain ⟨d2, hd2, he2⟩ := unit_ex (a := a2) (by omega)
      have hR := on_ad (on_mu gG_on d1) (on_mu hP d2)
      refine mk_linear (r := cd (ad (mu gG d1) (mu P d2))) (g1 := g) (t1 := thM t 0) ?_ ?_ rfl (inv_th hI 0)
      · unfold f_K_linear
        rw [sl_k k hk, s_K_pointOf hk hP hn h1]
        simp only [ob]
        rw [i64 a1, i64 a2, hu1, hu2]
        simp only [ob]
        rw [if_neg (by decide), if_neg (by decide)]
        simp only [ob, na_1]
        rw [hd1, hd2, g_C, s_sm gG_on hP (by omega) (by omega)]
        simp only [ob]
        rw [s_C_toCode hR]
        simp only [ob]
      · unfold f_M_linear
        rw [sl_m k hk, s_M_full hk hn h2]
        simp only [ob]
        rw [if_neg (by decide), if_neg (by decide), hv1]
        simp only [ob]
        rw [if_neg (by decide), hv2]
        simp only [ob]
        rw [if_neg (by decide)]
        simp only [ob]
        rw [if_pos (by decide), g_M]
        simp only [ob]
        rw [he1, s_M_times gG_on (by omega)]
        simp only [ob]
        rw [if_neg (sl_g hk), sl_c hk, h2, he2, s_M_times hP (by omega)]
        simp only [ob]
        rw [s_M_sum]
        simp only [ob]
        rw [s_M_codeOf]
        simp only [ob]
        rfl
    · rw [if_neg c2] at hu2 hv2
      refine mk_linear_IAE (r := 0) (g1 := g) (t1 := thM t 3) ?_ ?_ rfl (inv_th hI 3)
      · unfold f_K_linear
        rw [sl_k k hk, s_K_pointOf hk hP hn h1]
        simp only [ob]
        rw [i64 a1, i64 a2, hu1, hu2]
        simp only [ob]
        rw [if_neg (by decide), if_pos (by decide)]
        simp only [ob, na_0]
      · unfold f_M_linear
        rw [sl_m k hk, s_M_full hk hn h2]
        simp only [ob]
        rw [if_neg (by decide), if_neg (by decide), hv1]
        simp only [ob]
        rw [if_neg (by decide), hv2]
        simp only [ob]
        rfl
  · rw [if_neg c1] at hu1 hv1
    refine mk_linear_IAE (r := 0) (g1 := g) (t1 := thM t 3) ?_ ?_ rfl (inv_th hI 3)
    · unfold f_K_linear
      rw [sl_k k hk, s_K_pointOf hk hP hn h1]
      simp only [ob]
      rw [i64 a1, hu1]
      simp only [ob]
      rw [if_pos (by decide)]
      simp only [ob, na_0]
    · unfold f_M_linear
      rw [sl_m k hk, s_M_full hk hn h2]
      simp only [ob]
      rw [if_neg (by decide), if_neg (by decide), hv1]
      simp only [ob]
      rfl
