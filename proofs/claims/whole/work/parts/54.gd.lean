/-! good, recover -/
theorem u_lt1 (a : Int32) : (a < 1) ↔ a.toInt < 1 := i32_lt (n := 1) (by omega)
theorem u_lt0 (a : Int32) : (a < 0) ↔ a.toInt < 0 := i32_lt (n := 0) (by omega)
theorem u_geN (a : Int32) : (0 ≤ lg_cmp (Int32.toInt64 a) 1073729077) ↔ 1073729077 ≤ a.toInt := by
  have := i32_b a
  rw [i64, l_q]; exact lc_ge (by omega) (by omega) (by omega) (by omega)
theorem u_geP (a : Int32) : (0 ≤ lg_cmp (Int32.toInt64 a) 1073735023) ↔ 1073735023 ≤ a.toInt := by
  have := i32_b a
  rw [i64, l_p]; exact lc_ge (by omega) (by omega) (by omega) (by omega)
theorem u_half (a : Int32) : (lg_cmp (Int32.toInt64 a) 536864538 ≤ 0) ↔ a.toInt ≤ 536864538 := by
  have := i32_b a
  rw [i64, l_h]; exact lc_le (by omega) (by omega) (by omega) (by omega)
theorem u_unit (a : Int32) : f_S_isUnit (Int32.toInt64 a) = some (if 1 ≤ a.toInt ∧ a.toInt < 1073729077 then 1 else 0) := by
  have := i32_b a
  rw [i64]; exact s_S_isUnit (by omega) (by omega)
theorem u_has (a : Int32) : f_S_has (Int32.toInt64 a) = some (if 0 ≤ a.toInt ∧ a.toInt < 1073729077 then 1 else 0) := by
  have := i32_b a
  rw [i64]; exact s_S_has (by omega) (by omega)
theorem u_hasF (a : Int32) : f_F_has (Int32.toInt64 a) = some (if 0 ≤ a.toInt ∧ a.toInt < 1073735023 then 1 else 0) := by
  have := i32_b a
  rw [i64]; exact s_F_has (by omega) (by omega)
theorem qn_ex {N z d : Nat} (hN : N = 1073729077) (hz : z < 9223372036854775808) (hd : d < N) : ∃ u : Nat, u < N ∧ qz N (z : Int) d = (u : Int) ∧ f_S_quotient (li z) (li d) = some (li u) ∧ f_M_quotient (li z) (li d) 1073729077 = some (li u) := by
  obtain ⟨b1, b2⟩ := qz_bd (M := N) (by omega) (z : Int) d
  obtain ⟨u, hu⟩ := Int.eq_ofNat_of_zero_le b1
  refine ⟨u, by omega, hu, ?_, ?_⟩
  · rw [s_S_quotient hN (n_prime hN) hz hd, hu]
  · rw [l_nM hN, s_M_quotient (by omega) (by omega) (by omega) (by omega) (by omega), hu]
theorem g_good : ag_good inv := by
  intro g o t a0 a1 a2 a3 hI
  rcases sl a0 with ⟨k, hk, rfl⟩ | ⟨e1, e2⟩
  rotate_left
  · refine mk_good_IOOB (r := 0) (g1 := g) (t1 := thM t 1) ?_ ?_ rfl (inv_th hI 1)
    · unfold f_K_good
      rw [e1]
      simp only [ob]
    · unfold f_M_good
      rw [s_M_noPoint_er e2]
      simp only [ob]
      rfl
  obtain ⟨P, hP, h1, h2⟩ := inv_P hI hk
  by_cases hn : P = none
  · subst hn
    refine mk_good_NSE (r := 0) (g1 := g) (t1 := thM t 2) ?_ ?_ rfl (inv_th hI 2)
    · unfold f_K_good
      rw [sl_k k hk, s_K_pointOf_no hk h1]
      simp only [ob]
    · unfold f_M_good
      rw [s_M_noPoint_no hk h2]
      simp only [ob]
      rfl
  have u2 := u_unit a2
  have u3 := u_unit a3
  have m2 := u_lt1 a2
  have m3 := u_lt1 a3
  have n2 := u_geN a2
  have hf := u_half a3
  by_cases c2 : 1 ≤ a2.toInt ∧ a2.toInt < 1073729077
  rotate_left
  · rw [if_neg c2] at u2
    refine mk_good (r := 0) (g1 := g) (t1 := thM t 0) ?_ ?_ rfl (inv_th hI 0)
    · unfold f_K_good
      rw [sl_k k hk, s_K_pointOf hk hP hn h1]
      simp only [ob]
      rw [u2]
      simp only [ob]
      rw [if_pos (by decide)]
    · unfold f_M_good
      rw [s_M_noPoint hk hn h2]
      simp only [ob]
      rw [if_pos (by decide)]
      by_cases m : a2 < 1
      · rw [if_pos m]
        rfl
      · have n : ¬ a2.toInt < 1 := fun h => m (m2.mpr h)
        have n' : 0 ≤ lg_cmp (Int32.toInt64 a2) 1073729077 := n2.mpr (by omega)
        rw [if_neg m, if_pos n']
        rfl
  rw [if_pos c2] at u2
  have k2 : ¬ a2 < 1 := fun h => absurd (m2.mp h) (by omega)
  have k3 : ¬ 0 ≤ lg_cmp (Int32.toInt64 a2) 1073729077 := fun h => absurd (n2.mp h) (by omega)
  by_cases c3 : 1 ≤ a3.toInt ∧ a3.toInt < 1073729077
  rotate_left
  · rw [if_neg c3] at u3
    refine mk_good (r := 0) (g1 := g) (t1 := thM t 0) ?_ ?_ rfl (inv_th hI 0)
    · unfold f_K_good
      rw [sl_k k hk, s_K_pointOf hk hP hn h1]
      simp only [ob]
      rw [u2]
      simp only [ob]
      rw [if_neg (by decide), u3]
      simp only [ob]
      rw [if_pos (by decide)]
    · unfold f_M_good
      rw [s_M_noPoint hk hn h2]
      simp only [ob]
      rw [if_pos (by decide), if_neg k2, if_neg k3]
      by_cases m : a3 < 1
      · rw [if_pos m]
        rfl
      · have n : ¬ a3.toInt < 1 := fun h => m (m3.mpr h)
        have n' : ¬ lg_cmp (Int32.toInt64 a3) 536864538 ≤ 0 := fun h => absurd (hf.mp h) (by omega)
        rw [if_neg m, if_neg n']
        rfl
  rw [if_pos c3] at u3
  have k4 : ¬ a3 < 1 := fun h => absurd (m3.mp h) (by omega)
  by_cases c4 : a3.toInt ≤ 536864538
  rotate_left
  · have k5 : ¬ lg_cmp (Int32.toInt64 a3) 536864538 ≤ 0 := fun h => c4 (hf.mp h)
    refine mk_good (r := 0) (g1 := g) (t1 := thM t 0) ?_ ?_ rfl (inv_th hI 0)
    · unfold f_K_good
      rw [sl_k k hk, s_K_pointOf hk hP hn h1]
      simp only [ob]
      rw [u2]
      simp only [ob]
      rw [if_neg (by decide), u3]
      simp only [ob]
      rw [if_neg (by decide), if_neg k5]
    · unfold f_M_good
      rw [s_M_noPoint hk hn h2]
      simp only [ob]
      rw [if_pos (by decide), if_neg k2, if_neg k3, if_neg k4, if_neg k5]
      rfl
  have k5 := hf.mpr c4
  obtain ⟨d2, hd2, he2⟩ := unit_ex (a := a2) (by omega)
  obtain ⟨d3, hd3, he3⟩ := unit_ex (a := a3) (by omega)
  obtain ⟨z, hz, z1, z2⟩ := dig_ex a1
  obtain ⟨N, hN⟩ : ∃ N : Nat, N = 1073729077 := ⟨_, rfl⟩
  obtain ⟨u, hu, -, ua, ub⟩ := qn_ex (z := z) (d := d3) hN (by omega) (by omega)
  obtain ⟨v, hv, -, va, vb⟩ := qn_ex (z := d2) (d := d3) hN (by omega) (by omega)
  have hR := on_ad (on_mu gG_on u) (on_mu hP v)
  have eK : ∀ j : Int32, (Option.bind (if (lg_cmp (cC (ad (mu gG u) (mu P v))) 0) = 0 then (some (0) : Option (Int32)) else (Option.bind (f_C_xOf (cC (ad (mu gG u) (mu P v)))) (fun r19 => if (lg_cmp (r19 - r19 / 1073729077 * 1073729077) (li d2)) = 0 then (some (1)) else (some (0))))) (fun j14 => if j14 = 0 ∨ j14 = 1 then some (Except.ok (j14, g)) else none) : Option (Except (String × sK) (Int32 × sK))) = some (.ok (j, g)) → f_K_good g (nI k) a1 a2 a3 = some (.ok (j, g)) := fun j hj => by
    unfold f_K_good
    rw [sl_k k hk, s_K_pointOf hk hP hn h1]
    simp only [ob]
    rw [u2]
    simp only [ob]
    rw [if_neg (by decide), u3]
    simp only [ob]
    rw [if_neg (by decide), if_pos k5, z1]
    simp only [ob]
    rw [he3, ua]
    simp only [ob]
    rw [he2, va]
    simp only [ob]
    rw [g_C, s_sm gG_on hP (by omega) (by omega)]
    simp only [ob]
    exact hj
  have eM : ∀ j : Int32, (Option.bind (if (lg_cmp (cR (ad (mu gG u) (mu P v))) (-1)) = 0 then (some (0) : Option (Int32)) else (Option.bind (f_M_xOf (cR (ad (mu gG u) (mu P v)))) (fun r17 => if (lg_cmp (r17 - r17 / 1073729077 * 1073729077) (li d2)) = 0 then (some (1)) else (some (0))))) (fun j12 => if j12 = 0 ∨ j12 = 1 then some (j12, thM t 0) else none) : Option (Int32 × sM)) = some (j, thM t 0) → f_M_good t (nI k) a1 a2 a3 = some (j, thM t 0) := fun j hj => by
    unfold f_M_good
    rw [s_M_noPoint hk hn h2]
    simp only [ob]
    rw [if_pos (by decide), if_neg k2, if_neg k3, if_neg k4, if_pos k5, z2]
    simp only [ob]
    rw [he3, ub]
    simp only [ob]
    rw [he2, vb, g_M]
    simp only [ob]
    rw [s_M_times gG_on (by omega)]
    simp only [ob]
    rw [if_neg (sl_g hk), sl_c hk, h2, s_M_times hP (by omega)]
    simp only [ob]
    rw [s_M_sum]
    simp only [ob]
    exact hj
  by_cases hq : ad (mu gG u) (mu P v) = none
  · refine mk_good (r := 0) (g1 := g) (t1 := thM t 0) (eK 0 ?_) (eM 0 ?_) rfl (inv_th hI 0)
    · rw [if_pos ((cC_0 hR).mpr hq), ob, if_pos (by decide)]
    · rw [if_pos ((cR_0 _).mpr hq), ob, if_pos (by decide)]
  · obtain ⟨X, w, hX, hw, x1, x2, -, -, -⟩ := xo_ex (P := ad (mu gG u) (mu P v))
    have q1 : ¬ lg_cmp (cC (ad (mu gG u) (mu P v))) 0 = 0 := fun h => hq ((cC_0 hR).mp h)
    have q2 : ¬ lg_cmp (cR (ad (mu gG u) (mu P v))) (-1) = 0 := fun h => hq ((cR_0 _).mp h)
    by_cases hc : lg_cmp (li ((X % 1073729077 : Nat) : Int)) (li d2) = 0
    · refine mk_good (r := 1) (g1 := g) (t1 := thM t 0) (eK 1 ?_) (eM 1 ?_) rfl (inv_th hI 0)
      · rw [if_neg q1, x1, ob, nmod_n (by omega), if_pos hc, ob, if_pos (by decide)]
      · rw [if_neg q2, x2, ob, nmod_n (by omega), if_pos hc, ob, if_pos (by decide)]
    · refine mk_good (r := 0) (g1 := g) (t1 := thM t 0) (eK 0 ?_) (eM 0 ?_) rfl (inv_th hI 0)
      · rw [if_neg q1, x1, ob, nmod_n (by omega), if_neg hc, ob, if_pos (by decide)]
      · rw [if_neg q2, x2, ob, nmod_n (by omega), if_neg hc, ob, if_pos (by decide)]
