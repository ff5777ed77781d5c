/-! prove, holds, agree -/
theorem s_es {c x : Int64} {w : Int32} (h : f_C_isOdd c = some w) : f_K_evenScalar x c = some (if w = 0 then x else 1073729077 - x) := by
  unfold f_K_evenScalar
  rw [h, ob, if_o, ob]
theorem g_prove : ag_prove inv := by
  intro g o t a0 a1 a2 hI
  rcases sl a0 with ⟨k, hk, rfl⟩ | ⟨e1, e2⟩
  rotate_left
  · refine mk_prove_IOOB (r := 0) (g1 := g) (t1 := thM t 1) ?_ ?_ rfl (inv_th hI 1)
    · unfold f_K_prove
      rw [e1]
      simp only [ob]
    · unfold f_M_prove
      rw [s_M_noSecret_er e2]
      simp only [ob]
      rfl
  obtain ⟨P, hP, h1, h2⟩ := inv_P hI hk
  obtain ⟨d, hd, hd1, hd2⟩ := inv_S hI k
  by_cases h0 : d = 0
  · subst h0
    refine mk_prove_ISE (r := 0) (g1 := g) (t1 := thM t 2) ?_ ?_ rfl (inv_th hI 2)
    · unfold f_K_prove
      rw [sl_k k hk, s_K_secretOf_no hk hd1]
      simp only [ob]
    · unfold f_M_prove
      rw [s_M_noSecret_no hk hd2]
      simp only [ob]
      rfl
  obtain ⟨X, w, hX, hw, x1, x2, w1, w2, -⟩ := xo_ex (P := P)
  have eS := s_es (x := li d) w1
  generalize hD : (if w = 0 then li (d : Int) else 1073729077 - li (d : Int)) = D at eS
  obtain ⟨v1, k1, k2⟩ := mix_ex a2 23
  obtain ⟨v2, k3, k4⟩ := mix_ex (D ^^^ ((Int64.toUInt64 v1 >>> ((Int32.toInt64 34).toUInt64 &&& Int64.toUInt64 63)).toInt64)) (li X)
  obtain ⟨v3, k5, k6⟩ := mix_ex v2 a1
  obtain ⟨m, hm, em⟩ := ush33 v3
  have eK : ∀ {r : Except (String × sK) (Int64 × sK)}, (if (lg_cmp (li ((m % 1073729077 : Nat) : Int)) 0) = 0 then (some (.error ("java/lang/UnsupportedOperationException", g))) else (Option.bind (f_C_multiple (li ((m % 1073729077 : Nat) : Int)) 4411025356) (fun r17 => Option.bind (f_C_xOf r17) (fun r18 => Option.bind (f_K_challenge r18 (li X) a1) (fun r19 => Option.bind (f_K_evenScalar (li ((m % 1073729077 : Nat) : Int)) r17) (fun r20 => some (.ok ((r18 * 4294967296) + ((r20 + (r19 * D)) - (r20 + (r19 * D)) / 1073729077 * 1073729077), g))))))) : Option (Except (String × sK) (Int64 × sK))) = some r → f_K_prove g (nI k) a1 a2 = some r := fun h6 => by
    unfold f_K_prove
    rw [sl_k k hk, s_K_secretOf hk hd h0 hd1]
    simp only [ob]
    rw [if_neg (sl_g hk), sl_c hk, h1, eS]
    simp only [ob]
    rw [if_neg (sl_h hk), x1]
    simp only [ob]
    rw [k1]
    simp only [ob]
    rw [k3]
    simp only [ob]
    rw [k5]
    simp only [ob]
    rw [em, nmod_n (by omega)]
    exact h6
  have eM : ∀ {j : Int32} {r : Int64 × sM}, (if (lg_cmp (li ((m % 1073729077 : Nat) : Int)) 0) = 0 then (some (3) : Option (Int32)) else (some (0))) = some j → (if j = 0 then (Option.bind (f_M_g ) (fun r20 => Option.bind (f_M_times (li ((m % 1073729077 : Nat) : Int)) r20) (fun r21 => Option.bind (f_M_odd r21) (fun r22 => Option.bind (if r22 = 0 then (some (li ((m % 1073729077 : Nat) : Int)) : Option (Int64)) else (some (1073729077 - li ((m % 1073729077 : Nat) : Int)))) (fun j23 => Option.bind (f_M_xOf r21) (fun r27 => Option.bind (f_M_challenge r27 (li X) a1) (fun r28 => Option.bind (f_M_xOf r21) (fun r29 => some ((r29 * 4294967296) + ((j23 + (r28 * D)) - (j23 + (r28 * D)) / 1073729077 * 1073729077), thM t j)))))))) ) else (some (0, thM t j))) = some r → f_M_prove t (nI k) a1 a2 = some r := fun h5 h6 => by
    unfold f_M_prove
    rw [s_M_noSecret hk hd h0 hd2]
    simp only [ob]
    rw [if_pos (by decide), if_neg (sl_g hk), sl_c hk, h2, x2]
    simp only [ob]
    rw [if_neg (sl_h hk), w2]
    simp only [ob]
    rw [if_neg (sl_h hk), if_neg (sl_h hk), hd2, if_o, hD]
    simp only [ob]
    rw [k2]
    simp only [ob]
    rw [k4]
    simp only [ob]
    rw [k6]
    simp only [ob]
    rw [em, nmod_n (by omega), h5]
    simp only [ob]
    exact h6
  by_cases hz : lg_cmp (li ((m % 1073729077 : Nat) : Int)) 0 = 0
  · refine mk_prove_UOE (r := 0) (g1 := g) (t1 := thM t 3) (eK ?_) (eM (j := 3) ?_ ?_) rfl (inv_th hI 3)
    · rw [if_pos hz]
    · rw [if_pos hz]
    · rw [if_neg (by decide)]
  · have hm2 : m % 1073729077 < 1073729077 := Nat.mod_lt _ (by decide)
    generalize m % 1073729077 = m' at hz hm2 eK eM
    obtain ⟨X', w', hX', hw', x1', x2', w1', w2', -⟩ := xo_ex (P := mu gG m')
    obtain ⟨e, he, c1, c2⟩ := chl_ex (li X') (li X) a1
    refine mk_prove (r := (li X' * 4294967296) + (((if w' = 0 then li (m' : Int) else 1073729077 - li (m' : Int)) + (li e * D)) - ((if w' = 0 then li (m' : Int) else 1073729077 - li (m' : Int)) + (li e * D)) / 1073729077 * 1073729077)) (g1 := g) (t1 := thM t 0) (eK ?_) (eM (j := 0) ?_ ?_) rfl (inv_th hI 0)
    · rw [if_neg hz, g_C, s_C_multiple gG_on (by omega), ob, x1', ob, c1, ob, s_es w1', ob]
    · rw [if_neg hz]
    · rw [if_pos rfl, g_M, ob, s_M_times gG_on (by omega), ob, w2', ob, if_o, ob, x2', ob, c2, ob, ob]
theorem g_holds : ag_holds inv := by
  intro g o t a0 a1 a2 a3 hI
  rcases sl a0 with ⟨k, hk, rfl⟩ | ⟨e1, e2⟩
  rotate_left
  · refine mk_holds_IOOB (r := 0) (g1 := g) (t1 := thM t 1) ?_ ?_ rfl (inv_th hI 1)
    · unfold f_K_holds
      rw [e1]
      simp only [ob]
    · unfold f_M_holds
      rw [s_M_noPoint_er e2]
      simp only [ob]
      rfl
  obtain ⟨P, hP, h1, h2⟩ := inv_P hI hk
  cases P with
  | none =>
    refine mk_holds_NSE (r := 0) (g1 := g) (t1 := thM t 2) ?_ ?_ rfl (inv_th hI 2)
    · unfold f_K_holds
      rw [sl_k k hk, s_K_pointOf_no hk h1]
      simp only [ob]
    · unfold f_M_holds
      rw [s_M_noPoint_no hk h2]
      simp only [ob]
      rfl
  | some p =>
    obtain ⟨x, y⟩ := p
    have hn : (some (x, y) : pt) ≠ none := ne_none
    have u2 := u_hasF a2
    have u3 := u_has a3
    have u4 := s_M_isScalar a3
    have m2 := u_lt0 a2
    have n2 := u_geP a2
    have hQ := lift_on (fv x) 0
    by_cases c2 : 0 ≤ a2.toInt ∧ a2.toInt < 1073735023
    rotate_left
    · rw [if_neg c2] at u2
      refine mk_holds (r := 0) (g1 := g) (t1 := thM t 0) ?_ ?_ rfl (inv_th hI 0)
      · unfold f_K_holds
        rw [sl_k k hk, s_K_pointOf hk hP hn h1]
        simp only [ob]
        rw [s_C_evenOf hP]
        simp only [ob]
        rw [u2]
        simp only [ob]
        rw [if_pos (by decide)]
      · unfold f_M_holds
        rw [s_M_noPoint hk hn h2]
        simp only [ob]
        rw [if_pos (by decide)]
        by_cases m : a2 < 0
        · rw [if_pos m]
          rfl
        · have n : ¬ a2.toInt < 0 := fun h => m (m2.mpr h)
          have n' : 0 ≤ lg_cmp (Int32.toInt64 a2) 1073735023 := n2.mpr (by omega)
          rw [if_neg m, if_pos n']
          rfl
    rw [if_pos c2] at u2
    have k2 : ¬ a2 < 0 := fun h => absurd (m2.mp h) (by omega)
    have k3 : ¬ 0 ≤ lg_cmp (Int32.toInt64 a2) 1073735023 := fun h => absurd (n2.mp h) (by omega)
    by_cases c3 : 0 ≤ a3.toInt ∧ a3.toInt < 1073729077
    rotate_left
    · rw [if_neg c3] at u3 u4
      refine mk_holds (r := 0) (g1 := g) (t1 := thM t 0) ?_ ?_ rfl (inv_th hI 0)
      · unfold f_K_holds
        rw [sl_k k hk, s_K_pointOf hk hP hn h1]
        simp only [ob]
        rw [s_C_evenOf hP]
        simp only [ob]
        rw [u2]
        simp only [ob]
        rw [if_neg (by decide), u3]
        simp only [ob]
        rw [if_pos (by decide)]
      · unfold f_M_holds
        rw [s_M_noPoint hk hn h2]
        simp only [ob]
        rw [if_pos (by decide), if_neg k2, if_neg k3, u4]
        simp only [ob]
        rw [if_pos (by decide)]
        rfl
    rw [if_pos c3] at u3 u4
    obtain ⟨d3, hd3, he3⟩ := unit_ex (a := a3) (by omega)
    obtain ⟨e, he, ce1, ce2⟩ := chl_ex (Int32.toInt64 a2) (li (fv x)) a1
    obtain ⟨E, hE, hE1, hE2⟩ := n_sub (e := e) (by omega)
    have hR := on_ad (on_mu gG_on d3) (on_mu hQ E)
    have eX : f_C_xOf (cC (lift (fv x) 0)) = some (li (fv x)) := by rw [lift_ev hP]; exact s_C_xOf _ _
    have eK : ∀ j : Int32, (Option.bind (if (lg_cmp (cC (ad (mu gG d3) (mu (lift (fv x) 0) E))) 0) = 0 then (some (0) : Option (Int32)) else (Option.bind (f_C_isOdd (cC (ad (mu gG d3) (mu (lift (fv x) 0) E)))) (fun r19 => if r19 = 0 then (Option.bind (f_C_xOf (cC (ad (mu gG d3) (mu (lift (fv x) 0) E)))) (fun r20 => if (lg_cmp r20 (Int32.toInt64 a2)) = 0 then (some (1)) else (some (0)))) else (some (0))))) (fun j14 => if j14 = 0 ∨ j14 = 1 then some (Except.ok (j14, g)) else none) : Option (Except (String × sK) (Int32 × sK))) = some (.ok (j, g)) → f_K_holds g (nI k) a1 a2 a3 = some (.ok (j, g)) := fun j hj => by
      unfold f_K_holds
      rw [sl_k k hk, s_K_pointOf hk hP hn h1]
      simp only [ob]
      rw [s_C_evenOf hP]
      simp only [ob]
      rw [u2]
      simp only [ob]
      rw [if_neg (by decide), u3]
      simp only [ob]
      rw [if_neg (by decide), eX]
      simp only [ob]
      rw [ce1]
      simp only [ob]
      rw [hE2, he3, g_C, s_sm gG_on hQ (by omega) (by omega)]
      simp only [ob]
      exact hj
    have eM : ∀ j : Int32, (Option.bind (if (lg_cmp (cR (ad (mu gG d3) (mu (lift (fv x) 0) E))) (-1)) = 0 then (some (0) : Option (Int32)) else (Option.bind (f_M_odd (cR (ad (mu gG d3) (mu (lift (fv x) 0) E)))) (fun r18 => if r18 = 0 then (Option.bind (f_M_xOf (cR (ad (mu gG d3) (mu (lift (fv x) 0) E)))) (fun r19 => if (lg_cmp r19 (Int32.toInt64 a2)) = 0 then (some (1)) else (some (0)))) else (some (0))))) (fun j13 => if j13 = 0 ∨ j13 = 1 then some (j13, thM t 0) else none) : Option (Int32 × sM)) = some (j, thM t 0) → f_M_holds t (nI k) a1 a2 a3 = some (j, thM t 0) := fun j hj => by
      unfold f_M_holds
      rw [s_M_noPoint hk hn h2]
      simp only [ob]
      rw [if_pos (by decide), if_neg k2, if_neg k3, u4]
      simp only [ob]
      rw [if_neg (by decide), if_neg (sl_g hk), sl_c hk, h2, s_M_xOf]
      simp only [ob]
      rw [ce2, g_M]
      simp only [ob]
      have b1 := fv_0 x
      have b2 := fv_p x
      rw [he3, s_M_times gG_on (by omega), s_M_lift (by omega) (by omega), hE2]
      simp only [ob]
      rw [s_M_times hQ (by omega)]
      simp only [ob]
      rw [s_M_sum]
      simp only [ob]
      exact hj
    by_cases hq : ad (mu gG d3) (mu (lift (fv x) 0) E) = none
    · refine mk_holds (r := 0) (g1 := g) (t1 := thM t 0) (eK 0 ?_) (eM 0 ?_) rfl (inv_th hI 0)
      · rw [if_pos ((cC_0 hR).mpr hq), ob, if_pos (by decide)]
      · rw [if_pos ((cR_0 _).mpr hq), ob, if_pos (by decide)]
    · obtain ⟨X, w, hX, hw, x1, x2, w1, w2, -⟩ := xo_ex (P := ad (mu gG d3) (mu (lift (fv x) 0) E))
      have q1 : ¬ lg_cmp (cC (ad (mu gG d3) (mu (lift (fv x) 0) E))) 0 = 0 := fun h => hq ((cC_0 hR).mp h)
      have q2 : ¬ lg_cmp (cR (ad (mu gG d3) (mu (lift (fv x) 0) E))) (-1) = 0 := fun h => hq ((cR_0 _).mp h)
      by_cases hw0 : w = 0
      · by_cases hc : lg_cmp (li (X : Int)) (Int32.toInt64 a2) = 0
        · refine mk_holds (r := 1) (g1 := g) (t1 := thM t 0) (eK 1 ?_) (eM 1 ?_) rfl (inv_th hI 0)
          · rw [if_neg q1, w1, ob, if_pos hw0, x1, ob, if_pos hc, ob, if_pos (by decide)]
          · rw [if_neg q2, w2, ob, if_pos hw0, x2, ob, if_pos hc, ob, if_pos (by decide)]
        · refine mk_holds (r := 0) (g1 := g) (t1 := thM t 0) (eK 0 ?_) (eM 0 ?_) rfl (inv_th hI 0)
          · rw [if_neg q1, w1, ob, if_pos hw0, x1, ob, if_neg hc, ob, if_pos (by decide)]
          · rw [if_neg q2, w2, ob, if_pos hw0, x2, ob, if_neg hc, ob, if_pos (by decide)]
      · refine mk_holds (r := 0) (g1 := g) (t1 := thM t 0) (eK 0 ?_) (eM 0 ?_) rfl (inv_th hI 0)
        · rw [if_neg q1, w1, ob, if_neg hw0, ob, if_pos (by decide)]
        · rw [if_neg q2, w2, ob, if_neg hw0, ob, if_pos (by decide)]
theorem g_agree : ag_agree inv := by
  intro g o t a0 a1 hI
  rcases sl a0 with ⟨k, hk, rfl⟩ | ⟨e1, e2⟩
  rotate_left
  · refine mk_agree_IOOB (r := 0) (g1 := g) (t1 := thM t 1) ?_ ?_ rfl (inv_th hI 1)
    · unfold f_K_agree
      rw [e1]
      simp only [ob]
    · unfold f_M_agree
      rw [e2]
      simp only [ob]
      rw [if_pos (by decide)]
      simp only [ob]
      rfl
  rcases sl a1 with ⟨k1, hk1, rfl⟩ | ⟨e1, e2⟩
  rotate_left
  · refine mk_agree_IOOB (r := 0) (g1 := g) (t1 := thM t 1) ?_ ?_ rfl (inv_th hI 1)
    · unfold f_K_agree
      rw [sl_k k hk, e1]
      simp only [ob]
    · unfold f_M_agree
      rw [sl_m k hk, e2]
      simp only [ob]
      rw [if_neg (by decide), if_pos (by decide)]
      simp only [ob]
      rfl
  obtain ⟨d, hd, hd1, hd2⟩ := inv_S hI k
  obtain ⟨P, hP, p1, p2⟩ := inv_P hI hk1
  by_cases h0 : d = 0
  · subst h0
    have h9 : lg_cmp (t.2.2.1 k) 0 = 0 := by rw [hd2]; decide
    refine mk_agree_ISE (r := 0) (g1 := g) (t1 := thM t 2) ?_ ?_ rfl (inv_th hI 2)
    · unfold f_K_agree
      rw [sl_k k hk, sl_k k1 hk1]
      simp only [ob]
      rw [s_K_secretOf_no hk hd1]
      simp only [ob]
    · unfold f_M_agree
      rw [sl_m k hk, sl_m k1 hk1]
      simp only [ob]
      rw [if_neg (by decide), if_neg (by decide), if_neg (sl_g hk), sl_c hk, if_pos h9]
      simp only [ob]
      rfl
  have h9 : ¬ lg_cmp (t.2.2.1 k) 0 = 0 := by rw [hd2]; exact li_ne0 hd h0
  by_cases hn : P = none
  · subst hn
    refine mk_agree_NSE (r := 0) (g1 := g) (t1 := thM t 3) ?_ ?_ rfl (inv_th hI 3)
    · unfold f_K_agree
      rw [sl_k k hk, sl_k k1 hk1]
      simp only [ob]
      rw [s_K_secretOf hk hd h0 hd1]
      simp only [ob]
      rw [s_K_pointOf_no hk1 p1]
      simp only [ob]
    · unfold f_M_agree
      rw [sl_m k hk, sl_m k1 hk1]
      simp only [ob]
      rw [if_neg (by decide), if_neg (by decide), if_neg (sl_g hk), sl_c hk, if_neg h9, s_M_full_no hk1 p2]
      simp only [ob]
      rfl
  obtain ⟨N, hN⟩ : ∃ N : Nat, N = 1073729077 := ⟨_, rfl⟩
  have hne := p_order hN hP hn (d := d) (by omega) (by omega)
  have hon := on_mu hP d
  have m1 := s_C_multiple hP (k := d) (by omega)
  have m2 := s_M_times hP (k := d) (by omega)
  generalize mu P d = Q at hne hon m1 m2
  cases Q with
  | none => exact absurd rfl hne
  | some q =>
    obtain ⟨x, y⟩ := q
    obtain ⟨v, v1, v2⟩ := mix_ex (li (fv x)) (li (fv y))
    refine mk_agree (r := v) (g1 := g) (t1 := thM t 0) ?_ ?_ rfl (inv_th hI 0)
    · unfold f_K_agree
      rw [sl_k k hk, sl_k k1 hk1]
      simp only [ob]
      rw [s_K_secretOf hk hd h0 hd1]
      simp only [ob]
      rw [s_K_pointOf hk1 hP hn p1]
      simp only [ob]
      rw [m1]
      simp only [ob]
      rw [s_C_xOf, s_C_yOf]
      simp only [ob]
      rw [v1]
      simp only [ob]
    · unfold f_M_agree
      rw [sl_m k hk, sl_m k1 hk1]
      simp only [ob]
      rw [if_neg (by decide), if_neg (by decide), if_neg (sl_g hk), sl_c hk, if_neg h9, s_M_full hk1 hn p2]
      simp only [ob]
      rw [if_neg (by decide)]
      simp only [ob]
      rw [if_pos (by decide), if_neg (sl_h hk), if_neg (sl_g hk1), sl_c hk1, hd2, p2, m2]
      simp only [ob]
      rw [s_M_xOf, s_M_yOf]
      simp only [ob]
      rw [v2]
      simp only [ob]
      rfl
