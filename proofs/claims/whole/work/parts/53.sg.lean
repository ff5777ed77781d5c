/-! Mixing; sign. -/
theorem mix_ex (a b : Int64) : ∃ v, f_K_mix a b = some v ∧ f_M_h a b = some v := ⟨_, rfl, rfl⟩
theorem ush_ex (x : Int64) {k : Nat} (hk : k < 64) : ∃ n : Nat, n < 2 ^ (64 - k) ∧ ((x.toUInt64 >>> ((Int32.toInt64 (nI k)).toUInt64 &&& Int64.toUInt64 63)).toInt64) = li (n : Int) := by
  obtain ⟨m, hm, rfl⟩ := wb_of x
  refine ⟨m / 2 ^ k, ?_, by rw [wb_shr hm hk, li_n]⟩
  rw [Nat.div_lt_iff_lt_mul (Nat.two_pow_pos k), ← Nat.pow_add, show 64 - k + k = 64 by omega]
  exact hm
theorem ush33 (x : Int64) : ∃ n : Nat, n < 2147483648 ∧ ((Int64.toUInt64 x >>> ((Int32.toInt64 33).toUInt64 &&& Int64.toUInt64 63)).toInt64) = li (n : Int) := ush_ex x (k := 33) (by decide)
theorem ush34 (x : Int64) : ∃ n : Nat, n < 1073741824 ∧ ((Int64.toUInt64 x >>> ((Int32.toInt64 34).toUInt64 &&& Int64.toUInt64 63)).toInt64) = li (n : Int) := ush_ex x (k := 34) (by decide)
theorem dig_ex (a : Int64) : ∃ z : Nat, z < 1073741824 ∧ f_K_digest a = some (li z) ∧ f_M_digest a = some (li z) := by
  obtain ⟨v, h1, h2⟩ := mix_ex a 17
  obtain ⟨n, hn, e⟩ := ush34 v
  refine ⟨n, hn, ?_, ?_⟩
  · unfold f_K_digest; rw [h1, ob, e]
  · unfold f_M_digest; rw [h2, ob, e]
theorem nmod_n {n : Nat} (hn : n < 9223372036854775808) : li (n : Int) - li n / 1073729077 * 1073729077 = li ((n % 1073729077 : Nat) : Int) := by
  rw [l_q, li_remp (by omega) (by omega) (by omega) (by omega), Int.natCast_emod]
  rfl
theorem chl_ex (a b c : Int64) : ∃ e : Nat, e < 1073729077 ∧ f_K_challenge a b c = some (li e) ∧ f_M_challenge a b c = some (li e) := by
  obtain ⟨v, h1, h2⟩ := mix_ex ((a * 4294967296) + b) 29
  obtain ⟨w, h3, h4⟩ := mix_ex v c
  obtain ⟨n, hn, e⟩ := ush33 w
  refine ⟨n % 1073729077, Nat.mod_lt _ (by decide), ?_, ?_⟩
  · unfold f_K_challenge
    rw [h1, ob, h3, ob, e, nmod_n (by omega)]
  · unfold f_M_challenge
    rw [h2, ob, h4, ob, e, nmod_n (by omega)]
/-- x and the oddness of y, of no point too -/
theorem xo_ex {P : pt} : ∃ (X : Nat) (w : Int32), X < 1073735023 ∧ (w = 0 ∨ w = 1) ∧ f_C_xOf (cC P) = some (li X) ∧ f_M_xOf (cR P) = some (li X) ∧ f_C_isOdd (cC P) = some w ∧ f_M_odd (cR P) = some w ∧ ∀ x y, P = some (x, y) → (X : Int) = fv x ∧ w = pr y := by
  cases P with
  | none => exact ⟨0, 0, by decide, Or.inl rfl, by decide +kernel, by decide +kernel, by decide +kernel, by decide +kernel, fun x y h => by cases h⟩
  | some p =>
    obtain ⟨x, y⟩ := p
    exact ⟨x.val, pr y, x.isLt, pr_01 y, s_C_xOf x y, s_M_xOf x y, s_C_isOdd x y, s_M_odd x y, fun x1 y1 h => by cases h; exact ⟨rfl, rfl⟩⟩
theorem qz_congr {N : Nat} {z1 z2 : Int} (h : z1 % N = z2 % N) (w : Nat) : qz N z1 w = qz N z2 w := by unfold qz; rw [h]
def mko (w : Int32) (s : Int) (X : Nat) : Int32 := (if w = (if s ≤ 536864538 then 0 else 1) then 0 else 1) + (if X < 1073729077 then 0 else 2)
theorem if_o {c : Prop} [Decidable c] {α : Type} (a b : α) : (if c then some a else some b) = some (if c then a else b) := by split <;> rfl
theorem s_le {s : Int} (h1 : 0 ≤ s) (h2 : s < 1073729077) : (lg_cmp (li s) 536864538 ≤ 0) ↔ s ≤ 536864538 := by
  rw [l_h]; exact lc_le (by omega) (by omega) (by omega) (by omega)
theorem s_ltn {X : Nat} (h : X < 1073735023) : (lg_cmp (li (X : Int)) 1073729077 < 0) ↔ X < 1073729077 := by
  rw [l_q, lc_lt (by omega) (by omega) (by omega) (by omega)]; omega
theorem s_markOf {P : pt} {X : Nat} {w : Int32} {s : Int} (hX : X < 1073735023) (h1 : f_C_xOf (cC P) = some (li X)) (h2 : f_C_isOdd (cC P) = some w) (hs1 : 0 ≤ s) (hs2 : s < 1073729077) : f_K_markOf (cC P) (li s) = some (mko w s X) := by
  unfold f_K_markOf mko
  rw [h2, h1]
  simp only [ob]
  have c1 := s_le hs1 hs2
  have c2 := s_ltn hX
  by_cases d1 : s ≤ 536864538
  · rw [if_pos (c1.mpr d1), if_pos d1]
    simp only [ob]
    rw [if_o (c := w = 0)]
    simp only [ob]
    by_cases d2 : X < 1073729077
    · rw [if_pos (c2.mpr d2), if_pos d2, ob, Int32.add_zero]
    · rw [if_neg (fun h => d2 (c2.mp h)), if_neg d2, ob]
  · rw [if_neg (fun h => d1 (c1.mp h)), if_neg d1]
    simp only [ob]
    rw [if_o (c := w = 1)]
    simp only [ob]
    by_cases d2 : X < 1073729077
    · rw [if_pos (c2.mpr d2), if_pos d2, ob, Int32.add_zero]
    · rw [if_neg (fun h => d2 (c2.mp h)), if_neg d2, ob]
theorem sg_q {N K r d z : Nat} (hN : N = 1073729077) (hK : K < N) (hr : r < N) (hd : d < N) (hz : z < 1073741824) :
    f_S_quotient (li z + (li r * li d)) (li K) = some (li (qz N ((z : Int) + r * d) K)) ∧ f_M_quotient (li z + ((li r * li d) - (li r * li d) / 1073729077 * 1073729077)) (li K) 1073729077 = some (li (qz N ((z : Int) + r * d) K)) := by
  have b1 := mb (a := r) (b := d) (c := N) (by omega) (by omega) (by omega) (by omega)
  have b2 := cc31 (M := N) (by omega)
  constructor
  · rw [li_mul, li_add, show (z : Int) + r * d = ((z + r * d : Nat) : Int) by rw [Int.natCast_add, Int.natCast_mul]]
    have e : ((z + r * d : Nat) : Int) = (z : Int) + r * d := by rw [Int.natCast_add, Int.natCast_mul]
    exact s_S_quotient hN (n_prime hN) (by omega) hK
  · rw [l_nM hN, mm_li (by omega) hr hd, li_add]
    have q1 : r * d % N < N := Nat.mod_lt _ (by omega)
    rw [s_M_quotient (by omega) (by omega) (by omega) (by omega) (by omega)]
    rw [qz_congr]
    rw [Int.natCast_emod, Int.natCast_mul, Int.add_emod_emod]
theorem sg_loop {g : sK} {t : sM} {d z : Nat} {r9 : Int64} (hd : d < 1073729077) (hz : z < 1073741824) (hk : f_M_h (li d) (li z) = some r9) : ∀ (m f u : Nat), u + m = 65 → m < f → 1 ≤ u →
    (∃ r mk, f_K_sign_29 (li d) (li z) r9 f g (nI u) = some (.inl (.ok (r, markK g mk))) ∧ f_M_sign_35 (li z) (li d) f t (nI u) = some (.inl (r, markM t t.1 mk))) ∨ (∃ x y, f_K_sign_29 (li d) (li z) r9 f g (nI u) = some (.inr (g, x)) ∧ f_M_sign_35 (li z) (li d) f t (nI u) = some (.inr (t, y))) := by
  intro m
  induction m with
  | zero =>
    intro f u hu hf h1
    obtain ⟨f, rfl⟩ : ∃ f', f = f' + 1 := ⟨f - 1, by omega⟩
    have c : 64 < nI u := nI_lt (a := 64) (by omega) (by omega)
    exact Or.inr ⟨nI u, nI u, by rw [f_K_sign_29, if_pos c], by rw [f_M_sign_35, if_pos c]⟩
  | succ m ih =>
    intro f u hu hf h1
    obtain ⟨f, rfl⟩ : ∃ f', f = f' + 1 := ⟨f - 1, by omega⟩
    have c : ¬ 64 < nI u := nI_nlt (a := 64) (by omega) (by decide)
    have nx := ih f (u + 1) (by omega) (by omega) (by omega)
    obtain ⟨v, k1, k2⟩ := mix_ex r9 (Int32.toInt64 (nI u))
    obtain ⟨K, hK, e⟩ := ush33 v
    have hu := s_S_isUnit (z := (K : Int)) (by omega) (by omega)
    rw [f_K_sign_29, f_M_sign_35, if_neg c, if_neg c, hk]
    simp only [ob]
    rw [k1, k2]
    simp only [ob]
    rw [e, hu]
    simp only [ob]
    rw [nI_1]
    by_cases c1 : 1 ≤ (K : Int) ∧ (K : Int) < 1073729077
    · rw [if_pos c1, if_neg (by decide)]
      have m1 : ¬ lg_cmp (li (K : Int)) 1 < 0 := by rw [l_1]; exact fun h => absurd ((lc_lt (by omega) (by omega) (by omega) (by omega)).mp h) (by omega)
      have m2 : ¬ 0 ≤ lg_cmp (li (K : Int)) 1073729077 := by rw [l_q]; exact fun h => absurd ((lc_ge (by omega) (by omega) (by omega) (by omega)).mp h) (by omega)
      rw [if_neg m1, if_neg m2, g_C, g_M, s_C_multiple gG_on (by omega)]
      simp only [ob]
      rw [s_M_times gG_on (by omega)]
      simp only [ob]
      obtain ⟨X, w, hX, hw, x1, x2, w1, w2, -⟩ := xo_ex (P := mu gG K)
      rw [x1, x2, w2]
      simp only [ob]
      rw [nmod_n (by omega)]
      obtain ⟨N, hN⟩ : ∃ N : Nat, N = 1073729077 := ⟨_, rfl⟩
      have hr : X % 1073729077 < N := by rw [hN]; exact Nat.mod_lt _ (by decide)
      generalize hre : X % 1073729077 = r at hr ⊢
      obtain ⟨q1, q2⟩ := sg_q hN (K := K) (r := r) (d := d) (z := z) (by omega) hr (by omega) hz
      rw [q1, q2]
      simp only [ob]
      obtain ⟨sb1, sb2⟩ := qz_bd (M := N) (by omega) ((z : Int) + r * d) K
      generalize qz N ((z : Int) + r * d) K = s at sb1 sb2 ⊢
      have z1 : (lg_cmp (li (r : Int)) 0 = 0) ↔ r = 0 := by rw [l_0, lc_eq (by omega) (by omega) (by omega) (by omega)]; omega
      have z2 : (lg_cmp (li s) 0 = 0) ↔ s = 0 := by rw [l_0, lc_eq (by omega) (by omega) (by omega) (by omega)]
      by_cases d1 : r = 0
      · rw [if_pos (z1.mpr d1), if_pos (z1.mpr d1)]
        exact nx
      rw [if_neg (fun h => d1 (z1.mp h)), if_neg (fun h => d1 (z1.mp h))]
      by_cases d2 : s = 0
      · rw [if_pos (z2.mpr d2), if_pos (z2.mpr d2)]
        exact nx
      rw [if_neg (fun h => d2 (z2.mp h)), if_neg (fun h => d2 (z2.mp h))]
      rw [s_markOf hX x1 w1 sb1 (by omega)]
      simp only [ob]
      refine Or.inl ⟨(li r * 4294967296) + (if s ≤ 536864538 then li s else 1073729077 - li s), mko w s X, ?_, ?_⟩
      · have c2 := s_le sb1 (by omega)
        by_cases d3 : s ≤ 536864538
        · rw [if_pos (c2.mpr d3), if_pos d3]
          simp only [ob]
          rfl
        · rw [if_neg (fun h => d3 (c2.mp h)), if_neg d3]
          simp only [ob]
          rfl
      · have c2 := s_le sb1 (by omega)
        have c3 := s_ltn hX
        unfold mko
        by_cases d3 : s ≤ 536864538
        · rw [if_pos (c2.mpr d3), if_pos d3, if_pos d3]
          simp only [ob]
          rw [if_o (c := w = 0)]
          simp only [ob]
          by_cases d4 : X < 1073729077
          · rw [if_pos (c3.mpr d4), if_pos d4]
            simp only [ob]
            rw [if_pos (by decide)]
            simp only [ob]
            rfl
          · rw [if_neg (fun h => d4 (c3.mp h)), if_neg d4]
            simp only [ob]
            rw [if_pos (by decide)]
            simp only [ob]
            rfl
        · rw [if_neg (fun h => d3 (c2.mp h)), if_neg d3, if_neg d3]
          simp only [ob]
          rw [if_o (c := w = 1)]
          simp only [ob]
          by_cases d4 : X < 1073729077
          · rw [if_pos (c3.mpr d4), if_pos d4]
            simp only [ob]
            rw [if_neg (by decide)]
            simp only [ob]
            rfl
          · rw [if_neg (fun h => d4 (c3.mp h)), if_neg d4]
            simp only [ob]
            rw [if_neg (by decide)]
            simp only [ob]
            rfl
    · rw [if_neg c1, if_pos (by decide)]
      by_cases c2 : (K : Int) < 1
      · have m1 : lg_cmp (li (K : Int)) 1 < 0 := by rw [l_1]; exact (lc_lt (by omega) (by omega) (by omega) (by omega)).mpr c2
        rw [if_pos m1]
        exact nx
      · have m1 : ¬ lg_cmp (li (K : Int)) 1 < 0 := by rw [l_1]; exact fun h => absurd ((lc_lt (by omega) (by omega) (by omega) (by omega)).mp h) (by omega)
        have m2 : 0 ≤ lg_cmp (li (K : Int)) 1073729077 := by rw [l_q]; exact (lc_ge (by omega) (by omega) (by omega) (by omega)).mpr (by omega)
        rw [if_neg m1, if_pos m2]
        exact nx
theorem g_sign : ag_sign inv := by
  intro g o t a0 a1 hI
  rcases sl a0 with ⟨k, hk, rfl⟩ | ⟨e1, e2⟩
  rotate_left
  · refine mk_sign_IOOB (r := 0) (g1 := g) (t1 := thM t 1) ?_ ?_ rfl (inv_th hI 1)
    · unfold f_K_sign
      rw [e1]
      simp only [ob]
    · unfold f_M_sign
      rw [s_M_noSecret_er e2]
      simp only [ob]
      rfl
  obtain ⟨d, hd, hd1, hd2⟩ := inv_S hI k
  by_cases h0 : d = 0
  · subst h0
    refine mk_sign_ISE (r := 0) (g1 := g) (t1 := thM t 2) ?_ ?_ rfl (inv_th hI 2)
    · unfold f_K_sign
      rw [sl_k k hk, s_K_secretOf_no hk hd1]
      simp only [ob]
    · unfold f_M_sign
      rw [s_M_noSecret_no hk hd2]
      simp only [ob]
      rfl
  obtain ⟨z, hz, z1, z2⟩ := dig_ex a1
  obtain ⟨r9, k1, k2⟩ := mix_ex (li d) (li z)
  have e1 : nI 1 = 1 := by decide
  rcases sg_loop (g := g) (t := thM t 0) hd hz k2 64 65 1 (by omega) (by omega) (by omega) with ⟨r, mk, l1, l2⟩ | ⟨x, y, l1, l2⟩
  · refine mk_sign (r := r) (g1 := markK g mk) (t1 := markM t 0 mk) ?_ ?_ rfl (inv_mark hI 0 mk)
    · unfold f_K_sign
      rw [sl_k k hk, s_K_secretOf hk hd h0 hd1]
      simp only [ob]
      rw [z1]
      simp only [ob]
      rw [k1]
      simp only [ob]
      rw [e1] at l1
      rw [l1]
      simp only [ob]
    · unfold f_M_sign
      rw [s_M_noSecret hk hd h0 hd2]
      simp only [ob]
      rw [if_pos (by decide), if_neg (sl_g hk), sl_c hk, hd2, z2]
      simp only [ob]
      rw [e1] at l2
      have l3 : f_M_sign_35 (li z) (li d) 65 (0, t.2.1, t.2.2.1, t.2.2.2.1, t.2.2.2.2.1, t.2.2.2.2.2.1, t.2.2.2.2.2.2.1, t.2.2.2.2.2.2.2.1, t.2.2.2.2.2.2.2.2.1, t.2.2.2.2.2.2.2.2.2.1, t.2.2.2.2.2.2.2.2.2.2.1, t.2.2.2.2.2.2.2.2.2.2.2.1, t.2.2.2.2.2.2.2.2.2.2.2.2) 1 = some (.inl (r, markM (thM t 0) (thM t 0).1 mk)) := l2
      rw [l3]
      simp only [ob]
      rfl
  · refine mk_sign_UOE (r := 0) (g1 := g) (t1 := thM t 3) ?_ ?_ rfl (inv_th hI 3)
    · unfold f_K_sign
      rw [sl_k k hk, s_K_secretOf hk hd h0 hd1]
      simp only [ob]
      rw [z1]
      simp only [ob]
      rw [k1]
      simp only [ob]
      rw [e1] at l1
      rw [l1]
      simp only [ob]
    · unfold f_M_sign
      rw [s_M_noSecret hk hd h0 hd2]
      simp only [ob]
      rw [if_pos (by decide), if_neg (sl_g hk), sl_c hk, hd2, z2]
      simp only [ob]
      rw [e1] at l2
      have l3 : f_M_sign_35 (li z) (li d) 65 (0, t.2.1, t.2.2.1, t.2.2.2.1, t.2.2.2.2.1, t.2.2.2.2.2.1, t.2.2.2.2.2.2.1, t.2.2.2.2.2.2.2.1, t.2.2.2.2.2.2.2.2.1, t.2.2.2.2.2.2.2.2.2.1, t.2.2.2.2.2.2.2.2.2.2.1, t.2.2.2.2.2.2.2.2.2.2.2.1, t.2.2.2.2.2.2.2.2.2.2.2.2) 1 = some (.inr (thM t 0, y)) := l2
      rw [l3]
      simp only [ob]
      rfl
