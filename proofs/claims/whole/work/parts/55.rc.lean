/-! recover -/
theorem rv_eq (N A I : Int) : (N - A * I % N) % N = (N - A) % N * I % N := by
  rw [Int.emod_eq_emod_iff_emod_sub_eq_zero]
  apply Int.emod_eq_zero_of_dvd
  rw [Int.emod_def (A * I) N, Int.emod_def (N - A) N]
  generalize A * I / N = k1
  generalize (N - A) / N = k2
  exact ⟨1 + k1 - I + k2 * I, by grind⟩
theorem n_sub {e : Nat} (h : e ≤ 1073729077) : ∃ E : Nat, E < 1073741824 ∧ E + e = 1073729077 ∧ (1073729077 : Int64) - li (e : Int) = li (E : Int) := by
  refine ⟨1073729077 - e, by omega, by omega, ?_⟩
  rw [l_q, li_sub, show (1073729077 : Int) - (e : Int) = ((1073729077 - e : Nat) : Int) by omega]
theorem rv {N z d : Nat} (hN : N = 1073729077) (hz : z < 1073741824) (hd : d < N) : ∃ q E v : Nat, q < N ∧ E < 1073741824 ∧ v < N ∧ f_S_quotient (li z) (li d) = some (li q) ∧ (1073729077 : Int64) - li (q : Int) = li (E : Int) ∧ f_M_quotient (1073729077 - (li z - li z / 1073729077 * 1073729077)) (li d) 1073729077 = some (li v) ∧ mu gG E = mu gG v := by
  obtain ⟨q, hq, q1, q2, -⟩ := qn_ex (z := z) (d := d) hN (by omega) hd
  have hm : z % N < N := Nat.mod_lt _ (by omega)
  have hm' : z % 1073729077 ≤ 1073729077 := Nat.le_of_lt (Nat.mod_lt _ (by decide))
  obtain ⟨F, hF, hF1, hF2⟩ := n_sub hm'
  obtain ⟨v, hv, v1, -, v3⟩ := qn_ex (z := F) (d := d) hN (by omega) hd
  obtain ⟨E, hE, hE1, hE2⟩ := n_sub (e := q) (by omega)
  refine ⟨q, E, v, hq, hE, hv, q2, hE2, ?_, ?_⟩
  · rw [nmod_n (by omega), hF2]; exact v3
  · have e1 : (F : Int) = (N : Int) - (z : Int) % N := by
      rw [hN, ← Int.natCast_emod]; omega
    have h1 := rv_eq (N : Int) ((z : Int) % N) ((d ^ (N - 2) % N : Nat) : Int)
    unfold qz at q1 v1
    rw [e1] at v1
    rw [q1, v1] at h1
    have e2 : ((E % N : Nat) : Int) = (v : Int) := by
      rw [Int.natCast_emod, ← h1]
      congr 1
      omega
    have e3 : E % N = v := by omega
    rw [← mu_Gm hN E, e3]
def rj (a2 a3 a4 : Int32) : Int32 := if (1 ≤ a2.toInt ∧ a2.toInt < 1073729077) ∧ (1 ≤ a3.toInt ∧ a3.toInt < 1073729077) ∧ ¬ a4 < 0 ∧ ¬ 3 < a4 then 1 else 0
theorem rk_K (a2 a3 a4 : Int32) {α : Type} (F : Int32 → Option α) : Option.bind (f_S_isUnit (Int32.toInt64 a2)) (fun r4 => Option.bind (if r4 = 0 then (some (0) : Option (Int32)) else (Option.bind (f_S_isUnit (Int32.toInt64 a3)) (fun r43 => if r43 = 0 then (some (0)) else (if a4 < 0 then (some (0)) else (if 3 < a4 then (some (0)) else (some (1))))))) F) = F (rj a2 a3 a4) := by
  rw [u_unit a2, u_unit a3, ob, ob]
  unfold rj
  by_cases c2 : 1 ≤ a2.toInt ∧ a2.toInt < 1073729077
  · rw [if_pos c2, if_neg (by decide)]
    by_cases c3 : 1 ≤ a3.toInt ∧ a3.toInt < 1073729077
    · rw [if_pos c3, if_neg (by decide)]
      by_cases c4 : a4 < 0
      · rw [if_pos c4, ob, if_neg (fun h => h.2.2.1 c4)]
      · rw [if_neg c4]
        by_cases c5 : 3 < a4
        · rw [if_pos c5, ob, if_neg (fun h => h.2.2.2 c5)]
        · rw [if_neg c5, ob, if_pos ⟨c2, c3, c4, c5⟩]
    · rw [if_neg c3, if_pos (by decide), ob, if_neg (fun h => c3 h.2.1)]
  · rw [if_neg c2, if_pos (by decide), ob, if_neg (fun h => c2 h.1)]
theorem rk_M (a2 a3 a4 : Int32) : (if a2 < 1 then (some (0) : Option (Int32)) else (if 0 ≤ (lg_cmp (Int32.toInt64 a2) 1073729077) then (some (0)) else (if a3 < 1 then (some (0)) else (if 0 ≤ (lg_cmp (Int32.toInt64 a3) 1073729077) then (some (0)) else (if a4 < 0 then (some (0)) else (if 3 < a4 then (some (0)) else (some (1)))))))) = some (rj a2 a3 a4) := by
  have m2 := u_lt1 a2
  have m3 := u_lt1 a3
  have n2 := u_geN a2
  have n3 := u_geN a3
  unfold rj
  by_cases c1 : a2 < 1
  · have := m2.mp c1
    rw [if_pos c1, if_neg (fun h => absurd h.1.1 (by omega))]
  rw [if_neg c1]
  by_cases c2 : 0 ≤ lg_cmp (Int32.toInt64 a2) 1073729077
  · have := n2.mp c2
    rw [if_pos c2, if_neg (fun h => absurd h.1.2 (by omega))]
  rw [if_neg c2]
  by_cases c3 : a3 < 1
  · have := m3.mp c3
    rw [if_pos c3, if_neg (fun h => absurd h.2.1.1 (by omega))]
  rw [if_neg c3]
  by_cases c4 : 0 ≤ lg_cmp (Int32.toInt64 a3) 1073729077
  · have := n3.mp c4
    rw [if_pos c4, if_neg (fun h => absurd h.2.1.2 (by omega))]
  rw [if_neg c4]
  by_cases c5 : a4 < 0
  · rw [if_pos c5, if_neg (fun h => h.2.2.1 c5)]
  rw [if_neg c5]
  by_cases c6 : 3 < a4
  · rw [if_pos c6, if_neg (fun h => h.2.2.2 c6)]
  have i1 : ¬ a2.toInt < 1 := fun h => c1 (m2.mpr h)
  have i2 : ¬ 1073729077 ≤ a2.toInt := fun h => c2 (n2.mpr h)
  have i3 : ¬ a3.toInt < 1 := fun h => c3 (m3.mpr h)
  have i4 : ¬ 1073729077 ≤ a3.toInt := fun h => c4 (n3.mpr h)
  rw [if_neg c6, if_pos ⟨⟨by omega, by omega⟩, ⟨by omega, by omega⟩, c5, c6⟩]
theorem rm_ex {a4 : Int32} (h1 : ¬ a4 < 0) (h2 : ¬ 3 < a4) (x : Int64) : ∃ (y : Int64) (w : Int32), (y = x ∨ y = x + 1073729077) ∧ (if (a4 &&& 2) = 0 then (some x : Option (Int64)) else (some (x + 1073729077))) = some y ∧ (if (a4 &&& 1) = 1 then (some (1) : Option (Int32)) else (some (0))) = some w ∧ (if a4 ≤ 1 then (some x : Option (Int64)) else (some (x + 1073729077))) = some y ∧ (if (a4 - a4 / 2 * 2) = 1 then (some (1) : Option (Int32)) else (some (0))) = some w := by
  obtain ⟨m, hm, rfl⟩ := nI_of h1
  have h3 : m < 4 := by
    rcases Nat.lt_or_ge m 4 with h | h
    · exact h
    · exact absurd (nI_lt (a := 3) (by omega) hm) h2
  rcases (show m = 0 ∨ m = 1 ∨ m = 2 ∨ m = 3 by omega) with rfl | rfl | rfl | rfl
  · exact ⟨x, 0, Or.inl rfl, if_pos (by decide), if_neg (by decide), if_pos (by decide), if_neg (by decide)⟩
  · exact ⟨x, 1, Or.inl rfl, if_pos (by decide), if_pos (by decide), if_pos (by decide), if_pos (by decide)⟩
  · exact ⟨x + 1073729077, 0, Or.inr rfl, if_neg (by decide), if_neg (by decide), if_neg (by decide), if_neg (by decide)⟩
  · exact ⟨x + 1073729077, 1, Or.inr rfl, if_neg (by decide), if_pos (by decide), if_neg (by decide), if_pos (by decide)⟩
theorem g_recover : ag_recover inv := by
  intro g o t a0 a1 a2 a3 a4 hI
  rcases sl a0 with ⟨k, hk, rfl⟩ | ⟨e1, e2⟩
  rotate_left
  · refine mk_recover_IOOB (r := 0) (g1 := g) (t1 := thM t 1) ?_ ?_ rfl (inv_th hI 1)
    · unfold f_K_recover
      rw [e1]
      simp only [ob]
    · unfold f_M_recover
      rw [rk_M, e2, ob, ob, if_pos rfl, ob, if_neg (by decide)]
      rfl
  by_cases cj : (1 ≤ a2.toInt ∧ a2.toInt < 1073729077) ∧ (1 ≤ a3.toInt ∧ a3.toInt < 1073729077) ∧ ¬ a4 < 0 ∧ ¬ 3 < a4
  rotate_left
  · have ej : rj a2 a3 a4 = 0 := if_neg cj
    refine mk_recover_IAE (r := 0) (g1 := g) (t1 := thM t 2) ?_ ?_ rfl (inv_th hI 2)
    · unfold f_K_recover
      rw [sl_k k hk, ob]
      show Option.bind (f_S_isUnit (Int32.toInt64 a2)) _ = _
      rw [rk_K, ej, na_0, ob]
    · unfold f_M_recover
      rw [rk_M, ob, sl_m k hk, ob, ej, if_neg (by decide), if_pos rfl, ob, if_neg (by decide)]
      rfl
  have ej : rj a2 a3 a4 = 1 := if_pos cj
  obtain ⟨c2, c3, c4, c5⟩ := cj
  obtain ⟨d2, hd2, he2⟩ := unit_ex (a := a2) (by omega)
  obtain ⟨d3, hd3, he3⟩ := unit_ex (a := a3) (by omega)
  obtain ⟨y, w, hy, y1, w1, y2, w2⟩ := rm_ex c4 c5 (li d2)
  obtain ⟨x, hx1, hx2, rfl⟩ : ∃ x : Int, 0 ≤ x ∧ x < 4294967296 ∧ y = li x := by
    rcases hy with rfl | rfl
    · exact ⟨d2, by omega, by omega, rfl⟩
    · exact ⟨(d2 : Int) + 1073729077, by omega, by omega, by rw [l_q, li_add]⟩
  have hR := lift_on x w
  obtain ⟨z, hz, z1, z2⟩ := dig_ex a1
  obtain ⟨N, hN⟩ : ∃ N : Nat, N = 1073729077 := ⟨_, rfl⟩
  obtain ⟨u, hu, -, ua, ub⟩ := qn_ex (z := d3) (d := d2) hN (by omega) (by omega)
  obtain ⟨q, E, v, hq, hE, hv, qa, qb, vb, hG⟩ := rv (z := z) (d := d2) hN hz (by omega)
  have eM : ∀ {j22 : Int64} {m : Int32} {r : Int64 × sM}, (if (lg_cmp (cR (lift x w)) (-1)) = 0 then (some ((-1)) : Option (Int64)) else (Option.bind (f_M_times (li u) (cR (lift x w))) (fun r32 => Option.bind (f_M_g ) (fun r33 => Option.bind (f_M_times (li v) r33) (fun r34 => Option.bind (f_M_sum r32 r34) (fun r35 => some (r35))))))) = some j22 → (if (lg_cmp j22 (-1)) = 0 then (some (2) : Option (Int32)) else (some (0))) = some m → (if m = 0 then (Option.bind (f_M_lay (thM t m) (nI k) j22) (fun g30 => Option.bind (f_M_codeOf j22) (fun r31 => some (r31, g30)))) else (some (0, thM t m))) = some r → f_M_recover t (nI k) a1 a2 a3 a4 = some r := fun h4 h5 h6 => by
    unfold f_M_recover
    rw [rk_M, ob, sl_m k hk, ob, ej, if_neg (by decide), if_neg (by decide), ob, if_pos rfl, he2, y2, ob, w2, ob, s_M_lift (by omega) (by omega), ob, he3, ub, ob, z2, ob, vb, ob, h4, ob, h5, ob]
    exact h6
  have eK : ∀ {r : Except (String × sK) (Int64 × sK)}, (Option.bind (if (lg_cmp (cC (lift x w)) 0) = 0 then (some (0) : Option (Int32)) else (some (1))) (fun j21 => Option.bind (f_K_needArgument j21) (fun x25 => match x25 with | .error E9 => some (.error (E9, g)) | .ok _ => (Option.bind (f_C_sumOfMultiples (li u) (cC (lift x w)) (li E) 4411025356) (fun r32 => Option.bind (if (lg_cmp r32 0) = 0 then (some (0) : Option (Int32)) else (some (1))) (fun j33 => Option.bind (f_K_needArgument j33) (fun x37 => match x37 with | .error E9 => some (.error (E9, g)) | .ok _ => (Option.bind (f_K_fill g (nI k) r32 0) (fun t42 => match t42 with | (r41, g40) => (some (.ok (r41, g40))))))))))) : Option (Except (String × sK) (Int64 × sK))) = some r → f_K_recover g (nI k) a1 a2 a3 a4 = some r := fun h6 => by
    unfold f_K_recover
    rw [sl_k k hk, ob]
    show Option.bind (f_S_isUnit (Int32.toInt64 a2)) _ = _
    rw [rk_K, ej, na_1, ob]
    show Option.bind (if (a4 &&& 2) = 0 then (some (Int32.toInt64 a2) : Option (Int64)) else (some ((Int32.toInt64 a2) + 1073729077))) _ = _
    rw [he2, he3, y1, ob, w1, ob, s_C_pointAt (by omega) (by omega), ob, ua, z1]
    simp only [ob]
    rw [qa]
    simp only [ob]
    rw [qb]
    exact h6
  by_cases hn : lift x w = none
  · refine mk_recover_IAE (r := 0) (g1 := g) (t1 := thM t 2) (eK ?_) (eM (j22 := -1) (m := 2) ?_ ?_ ?_) rfl (inv_th hI 2)
    · rw [if_pos ((cC_0 hR).mpr hn), ob, na_0, ob]
    · rw [if_pos ((cR_0 _).mpr hn)]
    · rw [if_pos (by decide)]
    · rw [if_neg (by decide)]
  have n1 : ¬ lg_cmp (cC (lift x w)) 0 = 0 := fun h => hn ((cC_0 hR).mp h)
  have n2 : ¬ lg_cmp (cR (lift x w)) (-1) = 0 := fun h => hn ((cR_0 _).mp h)
  have hT := on_ad (on_mu hR u) (on_mu gG_on E)
  have eC : f_C_sumOfMultiples (li u) (cC (lift x w)) (li E) 4411025356 = some (cC (ad (mu (lift x w) u) (mu gG E))) := by
    rw [g_C, s_sm hR gG_on (by omega) (by omega)]
  have eR : (if (lg_cmp (cR (lift x w)) (-1)) = 0 then (some ((-1)) : Option (Int64)) else (Option.bind (f_M_times (li u) (cR (lift x w))) (fun r32 => Option.bind (f_M_g ) (fun r33 => Option.bind (f_M_times (li v) r33) (fun r34 => Option.bind (f_M_sum r32 r34) (fun r35 => some (r35))))))) = some (cR (ad (mu (lift x w) u) (mu gG E))) := by
    rw [if_neg n2, s_M_times hR (by omega), ob, g_M, ob, s_M_times gG_on (by omega), ob, s_M_sum, ob, hG]
  by_cases ht : ad (mu (lift x w) u) (mu gG E) = none
  · refine mk_recover_IAE (r := 0) (g1 := g) (t1 := thM t 2) (eK ?_) (eM (m := 2) eR ?_ ?_) rfl (inv_th hI 2)
    · rw [if_neg n1, ob, na_1, ob, eC]
      simp only [ob]
      rw [if_pos ((cC_0 hT).mpr ht)]
      simp only [ob, na_0]
    · rw [if_pos ((cR_0 _).mpr ht)]
    · rw [if_neg (by decide)]
  · refine mk_recover (r := cd (ad (mu (lift x w) u) (mu gG E))) (g1 := fillK g k (cC (ad (mu (lift x w) u) (mu gG E))) (li ((0 : Nat) : Int))) (t1 := fillM t 0 k (cR (ad (mu (lift x w) u) (mu gG E))) (li ((0 : Nat) : Int))) (eK ?_) (eM (m := 0) eR ?_ ?_) rfl (inv_fill hI hT (by omega) 0 k)
    · rw [if_neg n1, ob, na_1, ob, eC]
      simp only [ob]
      rw [if_neg (fun h => ht ((cC_0 hT).mp h))]
      simp only [ob, na_1]
      rw [s_K_fill g hk hT]
      simp only [ob]
      rfl
    · rw [if_neg (fun h => ht ((cR_0 _).mp h))]
    · rw [if_pos rfl, s_M_lay _ hk, ob, s_M_codeOf, ob]
      rfl
