/-! bundle, right -/
def bK (g : sK) (c : Nat) (e m : Int64) (a2 a3 : Int32) : sK := (g.1, g.2.1, g.2.2.1, vp_updL g.2.2.2.1 c e, vp_updL g.2.2.2.2.1 c m, upd g.2.2.2.2.2.1 c a2, upd g.2.2.2.2.2.2.1 c a3, nI (c + 1), g.2.2.2.2.2.2.2.2.1, g.2.2.2.2.2.2.2.2.2)
def bM (t : sM) (c : Nat) (e m : Int64) (a2 a3 : Int32) : sM := (0, t.2.1, t.2.2.1, t.2.2.2.1, nI (c + 1), vp_updL t.2.2.2.2.2.1 c e, vp_updL t.2.2.2.2.2.2.1 c m, upd t.2.2.2.2.2.2.2.1 c a2, upd t.2.2.2.2.2.2.2.2.1 c a3, t.2.2.2.2.2.2.2.2.2.1, t.2.2.2.2.2.2.2.2.2.2.1, t.2.2.2.2.2.2.2.2.2.2.2.1, t.2.2.2.2.2.2.2.2.2.2.2.2)
theorem rI_upd {c : Nat} {ge tx : Nat → Int64} (h : rI c ge tx) {x y : fp} (h1 : ec_on (some (x, y))) (h2 : pr y = 0) : rI (c + 1) (vp_updL ge c (cC (some (x, y)))) (vp_updL tx c (li (fv x))) := by
  intro i hi
  show ∃ x1 y1 : fp, ec_on (some (x1, y1)) ∧ pr y1 = 0 ∧ (if i = c then cC (some (x, y)) else ge i) = cC (some (x1, y1)) ∧ (if i = c then li (fv x) else tx i) = li (fv x1)
  by_cases e : i = c
  · rw [if_pos e, if_pos e]
    exact ⟨x, y, h1, h2, rfl, rfl⟩
  · rw [if_neg e, if_neg e]
    exact h i (by omega)
theorem nI_ne {c n : Nat} (hc : c < 2 ^ 31) (hn : n < 2 ^ 31) (h : c ≠ n) : ¬ nI c = nI n := fun e => h (by
  have := congrArg Int32.toNatClampNeg e
  rwa [nI_clamp hc, nI_clamp hn] at this)
theorem s_full {g : sK} {c : Nat} (h : g.2.2.2.2.2.2.2.1 = nI c) (hc : c < 8) : f_I_areFull g = some (0, g) := by
  have h1 : nI c < 8 := nI_lt (b := 8) hc (by decide)
  unfold f_I_areFull
  rw [h, if_pos h1, ob, if_pos (by decide)]
theorem s_full_8 {g : sK} (h : g.2.2.2.2.2.2.2.1 = nI 8) : f_I_areFull g = some (1, g) := by
  unfold f_I_areFull
  rw [h, if_neg (by decide), ob, if_pos (by decide)]
theorem s_put {g : sK} {c : Nat} {x y : fp} (hP : ec_on (some (x, y))) (h : g.2.2.2.2.2.2.2.1 = nI c) (hc : c < 8) (a1 : Int64) (a2 a3 : Int32) : f_I_put g (cC (some (x, y))) a1 a2 a3 = some (nI (c + 1), bK g c (cC (lift (fv x) 0)) a1 a2 a3) := by
  have h1 := nI_in hc (N := 8) (by decide)
  unfold f_I_put
  rw [s_C_evenOf hP, ob, h, if_neg h1, if_neg h1, if_neg h1, if_neg h1, nI_clamp (by omega), nI_1]
  rfl
theorem g_bundle : ag_bundle inv := by
  intro g o t a0 a1 a2 a3 hI
  rcases sl a0 with ⟨k, hk, rfl⟩ | ⟨e1, e2⟩
  rotate_left
  · refine mk_bundle_IOOB (r := 0) (g1 := g) (t1 := thM t 1) ?_ ?_ rfl (inv_th hI 1)
    · unfold f_K_bundle
      rw [e1]
      simp only [ob]
    · unfold f_M_bundle
      rw [s_M_noPoint_er e2]
      simp only [ob]
      rw [if_neg (by decide), s_M_noPoint_er e2]
      simp only [ob]
      rfl
  obtain ⟨P, hP, h1, h2⟩ := inv_P hI hk
  cases P with
  | none =>
    refine mk_bundle_NSE (r := 0) (g1 := g) (t1 := thM t 2) ?_ ?_ rfl (inv_th hI 2)
    · unfold f_K_bundle
      rw [sl_k k hk, s_K_pointOf_no hk h1]
      simp only [ob]
    · unfold f_M_bundle
      rw [s_M_noPoint_no hk h2]
      simp only [ob]
      rw [if_neg (by decide), s_M_noPoint_no hk h2]
      simp only [ob]
      rfl
  | some p =>
    obtain ⟨x, y⟩ := p
    have hn : (some (x, y) : pt) ≠ none := ne_none
    obtain ⟨i1, i2, ⟨c, hc, hcK, hcI⟩, i4, i5, q1, q2, q3, q4, q5, q6, q7⟩ := id hI
    have hq : t.2.2.2.2.1 = nI c := q3.trans hcK
    by_cases c8 : c = 8
    · subst c8
      refine mk_bundle_UOE (r := 0) (g1 := g) (t1 := thM t 3) ?_ ?_ rfl (inv_th hI 3)
      · unfold f_K_bundle
        rw [sl_k k hk, s_K_pointOf hk hP hn h1]
        simp only [ob]
        rw [s_full_8 hcK]
        simp only [ob]
        rw [if_neg (by decide)]
      · unfold f_M_bundle
        rw [s_M_noPoint hk hn h2]
        simp only [ob]
        rw [if_pos (by decide), hq, if_pos (by decide)]
        simp only [ob]
        rw [if_neg (by decide)]
        rfl
    · have hc7 : c < 8 := by omega
      have hne : ¬ nI c = 8 := nI_ne (n := 8) (by omega) (by decide) c8
      have g1 := nI_in hc7 (N := 8) (by decide)
      have he : lift (fv x) 0 = some (x, if pr y = 0 then y else 0 - y) := lift_ev hP
      have hev : ec_on (some (x, if pr y = 0 then y else 0 - y)) := by rw [← he]; exact lift_on _ _
      have hpr : pr (if pr y = 0 then y else 0 - y) = 0 := by
        by_cases h : pr y = 0
        · rw [if_pos h]; exact h
        · rw [if_neg h]; exact pr_other (on_y hP) (Or.inl rfl) h
      refine mk_bundle (r := nI (c + 1)) (g1 := bK g c (cC (lift (fv x) 0)) a1 a2 a3) (t1 := bM t c (li (fv x)) a1 a2 a3) ?_ ?_ rfl ?_
      · unfold f_K_bundle
        rw [sl_k k hk, s_K_pointOf hk hP hn h1]
        simp only [ob]
        rw [s_full hcK hc7]
        simp only [ob]
        rw [if_pos (by decide), s_put hP hcK hc7]
        simp only [ob]
      · unfold f_M_bundle
        rw [s_M_noPoint hk hn h2]
        simp only [ob]
        rw [if_pos (by decide), hq, if_neg hne]
        simp only [ob]
        rw [if_pos (by decide), if_neg (sl_g hk), sl_c hk, h2, s_M_xOf]
        simp only [ob]
        rw [hq, if_neg g1, if_neg g1, if_neg g1, if_neg g1, nI_clamp (by omega), nI_1]
        rfl
      · rw [he]
        refine ⟨i1, i2, ⟨c + 1, by omega, rfl, rI_upd hcI hev hpr⟩, i4, i5, q1, q2, rfl, ?_, ?_, ?_, q7⟩
        · show vp_updL _ _ _ = vp_updL _ _ _; rw [q4]
        · show upd _ _ _ = upd _ _ _; rw [q5]
        · show upd _ _ _ = upd _ _ _; rw [q6]
theorem wt_ex (a0 : Int64) (a1 : Int32) : ∃ W : Nat, W < 1073729077 ∧ f_I_weight a0 a1 = some (li W) ∧ (if a1 = 0 then (some (1) : Option (Int64)) else (Option.bind (f_M_h a0 (Int32.toInt64 a1)) (fun r49 => some (1 + (((Int64.toUInt64 r49 >>> ((Int32.toInt64 34).toUInt64 &&& Int64.toUInt64 63)).toInt64) - ((Int64.toUInt64 r49 >>> ((Int32.toInt64 34).toUInt64 &&& Int64.toUInt64 63)).toInt64) / 1073729076 * 1073729076))))) = some (li W) := by
  by_cases h : a1 = 0
  · refine ⟨1, by omega, ?_, ?_⟩
    · unfold f_I_weight
      rw [if_pos h, ob, l_1]
      rfl
    · rw [if_pos h, l_1]
      rfl
  · obtain ⟨v, v1, v2⟩ := mix_ex a0 (Int32.toInt64 a1)
    obtain ⟨n, hn, e⟩ := ush34 v
    have e2 : (1 : Int64) + (li n - li n / 1073729076 * 1073729076) = li ((1 + n % 1073729076 : Nat) : Int) := by
      rw [l_q1, li_remp (by omega) (by omega) (by omega) (by omega), l_1, li_add]
      congr 1
    refine ⟨1 + n % 1073729076, by omega, ?_, ?_⟩
    · unfold f_I_weight
      rw [if_neg h, v1, ob, e, e2, ob]
    · rw [if_neg h, v2, ob, e, e2]
theorem sm_mod {S W d : Nat} (hS : S < 1073729077) (hW : W < 1073729077) (hd : d < 1073729077) : (li S + (li W * li d)) - (li S + (li W * li d)) / 1073729077 * 1073729077 = li (((S + W * d) % 1073729077 : Nat) : Int) := by
  have b := mb (a := (W : Int)) (b := (d : Int)) (c := 1073729077) (by omega) (by omega) (by omega) (by omega)
  rw [l_q, li_mul, li_add, li_remp (by omega) (by omega) (by omega) (by omega), Int.natCast_emod, Int.natCast_add, Int.natCast_mul]
  rfl
theorem gg_add {N : Nat} (hN : N = 1073729077) (S w : Nat) : ad (mu gG S) (mu gG (w % N)) = mu gG ((S + w) % N) := by
  rw [mu_add gG_on, mu_Gm hN (S + w), ← mu_Gm hN (S + w % N), Nat.add_mod_mod, mu_Gm hN]
theorem gg_ad (S w : Nat) : ad (mu gG S) (mu gG (w % 1073729077)) = mu gG ((S + w) % 1073729077) := gg_add rfl S w
theorem rt_stop (a0 : Int64) (f : Nat) (t : sM) (u3 : Int32) (u4 u5 : Int64) : f_M_right_20 a0 (f + 1) t u3 u4 u5 0 = some (t, u3, u4, u5, 0) := by
  rw [f_M_right_20]
  by_cases h : t.2.2.2.2.1 ≤ u3
  · rw [if_pos h]
  · rw [if_neg h, if_pos rfl]
theorem rg_loop {g : sK} {t : sM} (a0 : Int64) {c : Nat} (hc : c ≤ 8) (hcK : g.2.2.2.2.2.2.2.1 = nI c) (hcI : rI c g.2.2.2.1 t.2.2.2.2.2.1) (hq : t.2.2.2.2.1 = nI c) (q4 : t.2.2.2.2.2.2.1 = g.2.2.2.2.1) (q5 : t.2.2.2.2.2.2.2.1 = g.2.2.2.2.2.1) (q6 : t.2.2.2.2.2.2.2.2.1 = g.2.2.2.2.2.2.1) : ∀ (m f i S : Nat) (T : pt), i + m = c → m < f → S < 1073729077 → ec_on T →
    (f_I_balance_8 a0 f g (nI i) (cC T) (li S) = some (.inl (0, g)) ∧ ∃ x y z, f_M_right_20 a0 f t (nI i) (cR T) (cR (mu gG S)) 1 = some (t, x, y, z, 0)) ∨ (∃ S' T' x x', S' < 1073729077 ∧ ec_on T' ∧ f_I_balance_8 a0 f g (nI i) (cC T) (li S) = some (.inr (g, x, cC T', li (S' : Nat))) ∧ f_M_right_20 a0 f t (nI i) (cR T) (cR (mu gG S)) 1 = some (t, x', cR T', cR (mu gG S'), 1)) := by
  intro m
  induction m with
  | zero =>
    intro f i S T hi hf hS hT
    obtain ⟨f, rfl⟩ : ∃ f', f = f' + 1 := ⟨f - 1, by omega⟩
    have h : nI c ≤ nI i := nI_le (by omega) (by omega)
    refine Or.inr ⟨S, T, nI i, nI i, hS, hT, ?_, ?_⟩
    · rw [f_I_balance_8, hcK, if_pos h]
    · rw [f_M_right_20, hq, if_pos h]
  | succ m ih =>
    intro f i S T hi hf hS hT
    obtain ⟨f, rfl⟩ : ∃ f', f = f' + 1 := ⟨f - 1, by omega⟩
    have h : ¬ nI c ≤ nI i := nI_ge (by omega) (by omega)
    have cl : Int32.toNatClampNeg (nI i) = i := nI_clamp (by omega)
    have gd := nI_in (show i < 8 by omega) (N := 8) (by decide)
    rw [cl] at gd
    obtain ⟨x, y, hon, hpr, hE1, hE2⟩ := hcI i (by omega)
    have b9 := i32_b (g.2.2.2.2.2.1 i)
    have hR := lift_on (g.2.2.2.2.2.1 i).toInt 0
    have hp : f_C_pointAt (Int32.toInt64 (g.2.2.2.2.2.1 i)) 0 = some (cC (lift (g.2.2.2.2.2.1 i).toInt 0)) := by
      rw [i64]; exact s_C_pointAt (by omega) (by omega) 0
    have hl : f_M_lift (Int32.toInt64 (g.2.2.2.2.2.1 i)) 0 = some (cR (lift (g.2.2.2.2.2.1 i).toInt 0)) := by
      rw [i64]; exact s_M_lift (by omega) (by omega) 0
    generalize lift (g.2.2.2.2.2.1 i).toInt 0 = R at hR hp hl
    obtain ⟨W, hW, wK, wM⟩ := wt_ex a0 (nI i)
    have uh := u_has (g.2.2.2.2.2.2.1 i)
    have us := s_M_isScalar (g.2.2.2.2.2.2.1 i)
    by_cases hr : R = none
    · refine Or.inl ⟨?_, ?_⟩
      · rw [f_I_balance_8, hcK, if_neg h, cl, if_neg gd, hp]
        simp only [ob]
        rw [if_pos ((cC_0 hR).mpr hr)]
      · obtain ⟨f, rfl⟩ : ∃ f', f = f' + 1 := ⟨f - 1, by omega⟩
        refine ⟨nI i + 1, cR T, cR (mu gG S), ?_⟩
        rw [f_M_right_20, hq, if_neg h, if_neg (by decide), wM, ob, cl, if_neg gd, q5, hl, ob, if_pos ((cR_0 _).mpr hr), ob, if_pos rfl]
        simp only [ob]
        exact rt_stop _ _ _ _ _ _
    have r1 : ¬ lg_cmp (cC R) 0 = 0 := fun h9 => hr ((cC_0 hR).mp h9)
    have r2 : ¬ lg_cmp (cR R) (-1) = 0 := fun h9 => hr ((cR_0 _).mp h9)
    by_cases c3 : 0 ≤ (g.2.2.2.2.2.2.1 i).toInt ∧ (g.2.2.2.2.2.2.1 i).toInt < 1073729077
    rotate_left
    · rw [if_neg c3] at uh us
      refine Or.inl ⟨?_, ?_⟩
      · rw [f_I_balance_8, hcK, if_neg h, cl, if_neg gd, hp]
        simp only [ob]
        rw [if_neg r1, if_neg gd, uh]
        simp only [ob]
        rw [if_pos (by decide)]
      · obtain ⟨f, rfl⟩ : ∃ f', f = f' + 1 := ⟨f - 1, by omega⟩
        refine ⟨nI i + 1, cR T, cR (mu gG S), ?_⟩
        rw [f_M_right_20, hq, if_neg h, if_neg (by decide), wM, ob, cl, if_neg gd, q5, hl, ob, if_neg r2, if_neg gd, q6, us, ob, if_pos rfl, ob, if_pos rfl]
        simp only [ob]
        exact rt_stop _ _ _ _ _ _
    rw [if_pos c3] at uh us
    obtain ⟨d, hd, he⟩ := unit_ex (a := g.2.2.2.2.2.2.1 i) (by omega)
    obtain ⟨e, hee, ce1, ce2⟩ := chl_ex (Int32.toInt64 (g.2.2.2.2.2.1 i)) (li (fv x)) (g.2.2.2.2.1 i)
    have hWe : W * e % 1073729077 < 1073729077 := Nat.mod_lt _ (by decide)
    have hWd : W * d % 1073729077 < 1073729077 := Nat.mod_lt _ (by decide)
    have hS' : (S + W * d) % 1073729077 < 1073729077 := Nat.mod_lt _ (by decide)
    have hdue := on_ad (on_mu hR W) (on_mu hon (W * e % 1073729077))
    have hlf : f_M_lift (li (fv x)) 0 = some (cR (some (x, y))) := by
      have b1 := fv_0 x
      have b2 := fv_p x
      rw [s_M_lift (by omega) (by omega) 0, ← hpr, lift_uniq hon]
    have nx := ih f (i + 1) ((S + W * d) % 1073729077) (ad T (ad (mu R W) (mu (some (x, y)) (W * e % 1073729077)))) (by omega) (by omega) hS' (on_ad hT hdue)
    have eK : f_I_balance_8 a0 (f + 1) g (nI i) (cC T) (li S) = f_I_balance_8 a0 f g (nI (i + 1)) (cC (ad T (ad (mu R W) (mu (some (x, y)) (W * e % 1073729077))))) (li (((S + W * d) % 1073729077 : Nat) : Int)) := by
      rw [f_I_balance_8, hcK, if_neg h, cl, if_neg gd, hp]
      simp only [ob]
      rw [if_neg r1, if_neg gd, uh]
      simp only [ob]
      rw [if_neg (by decide), wK]
      simp only [ob]
      rw [if_neg gd, if_neg gd, hE1, s_C_xOf]
      simp only [ob]
      rw [if_neg gd, ce1]
      simp only [ob]
      rw [if_neg gd, if_neg gd, he, sm_mod hS hW (by omega), nmod_mul hW hee, s_sm hR hon (by omega) (by omega)]
      simp only [ob]
      rw [s_C_sum hT hdue]
      simp only [ob]
      rw [nI_1]
    have eM : f_M_right_20 a0 (f + 1) t (nI i) (cR T) (cR (mu gG S)) 1 = f_M_right_20 a0 f t (nI (i + 1)) (cR (ad T (ad (mu R W) (mu (some (x, y)) (W * e % 1073729077))))) (cR (mu gG ((S + W * d) % 1073729077))) 1 := by
      rw [f_M_right_20, hq, if_neg h, if_neg (by decide), wM, ob, cl, if_neg gd, q5, hl, ob, if_neg r2, if_neg gd, q6, us, ob, if_neg (by decide), ob, if_neg (by decide), if_neg gd, if_neg gd, if_neg gd, hE2, q4, ce2, ob, if_neg gd, g_M, ob, he, nmod_mul hW (by omega), s_M_times gG_on (by omega), ob, s_M_sum, ob, s_M_times hR (by omega), ob, if_neg gd, hlf, ob, nmod_mul hW hee, s_M_times hon (by omega), ob, s_M_sum, ob, s_M_sum, ob, gg_ad]
      simp only [ob]
      rw [nI_1]
    rw [eK, eM]
    exact nx
def clK (g : sK) : sK := (g.1, g.2.1, g.2.2.1, g.2.2.2.1, g.2.2.2.2.1, g.2.2.2.2.2.1, g.2.2.2.2.2.2.1, 0, g.2.2.2.2.2.2.2.2.1, g.2.2.2.2.2.2.2.2.2)
def clM (t : sM) : sM := (0, t.2.1, t.2.2.1, t.2.2.2.1, 0, t.2.2.2.2.2.1, t.2.2.2.2.2.2.1, t.2.2.2.2.2.2.2.1, t.2.2.2.2.2.2.2.2.1, t.2.2.2.2.2.2.2.2.2.1, t.2.2.2.2.2.2.2.2.2.2.1, t.2.2.2.2.2.2.2.2.2.2.2.1, t.2.2.2.2.2.2.2.2.2.2.2.2)
theorem inv_cl {g : sK} {t : sM} (h : inv g t) : inv (clK g) (clM t) := by
  obtain ⟨i1, i2, -, i4, i5, q1, q2, q3, q4⟩ := h
  exact ⟨i1, i2, ⟨0, by omega, rfl, fun i hi => absurd hi (by omega)⟩, i4, i5, q1, q2, rfl, q4⟩
theorem g_right : ag_right inv := by
  intro g t a0 hI
  obtain ⟨i1, i2, ⟨c, hc, hcK, hcI⟩, i4, i5, q1, q2, q3, q4, q5, q6, q7⟩ := id hI
  have e0 : cC none = 0 := by decide
  have e1 : cR none = -1 := by decide
  have e2 : cR (mu gG 0) = -1 := by rw [mu_0]; exact e1
  have e3 : li ((0 : Nat) : Int) = 0 := by decide
  have e4 : nI 0 = 0 := by decide
  rcases rg_loop (g := g) (t := thM t 0) a0 hc hcK hcI (q3.trans hcK) q4 q5 q6 c 64 0 0 none (by omega) (by omega) (by omega) on_none with ⟨l1, x, y, z, l2⟩ | ⟨S, T, x, x', hS, hT, l1, l2⟩
  · rw [e0, e3, e4] at l1
    rw [e2, e1, e4] at l2
    refine ⟨0, clK g, clM t, ?_, ?_, inv_cl hI⟩
    · unfold f_K_right f_I_balance
      rw [l1]
      simp only [ob]
      unfold f_I_clear
      simp only [ob]
      rw [if_pos (by decide)]
      rfl
    · unfold f_M_right
      simp only [ob]
      have l3 : f_M_right_20 a0 64 (0, t.2.1, t.2.2.1, t.2.2.2.1, t.2.2.2.2.1, t.2.2.2.2.2.1, t.2.2.2.2.2.2.1, t.2.2.2.2.2.2.2.1, t.2.2.2.2.2.2.2.2.1, t.2.2.2.2.2.2.2.2.2.1, t.2.2.2.2.2.2.2.2.2.2.1, t.2.2.2.2.2.2.2.2.2.2.2.1, t.2.2.2.2.2.2.2.2.2.2.2.2) 0 (-1) (-1) 1 = some (thM t 0, x, y, z, 0) := l2
      rw [l3]
      simp only [ob]
      rw [if_pos (by decide)]
      simp only [ob]
      rw [if_pos (by decide)]
      rfl
  · rw [e0, e3, e4] at l1
    rw [e2, e1, e4] at l2
    have l3 : f_M_right_20 a0 64 (0, t.2.1, t.2.2.1, t.2.2.2.1, t.2.2.2.2.1, t.2.2.2.2.2.1, t.2.2.2.2.2.2.1, t.2.2.2.2.2.2.2.1, t.2.2.2.2.2.2.2.2.1, t.2.2.2.2.2.2.2.2.2.1, t.2.2.2.2.2.2.2.2.2.2.1, t.2.2.2.2.2.2.2.2.2.2.2.1, t.2.2.2.2.2.2.2.2.2.2.2.2) 0 (-1) (-1) 1 = some (thM t 0, x', cR T, cR (mu gG S), 1) := l2
    have mS := s_C_multiple gG_on (k := S) (by omega)
    have oS := on_mu gG_on S
    have cc1 := cC_eq oS hT
    have cc2 := cR_eq (mu gG S) T
    by_cases hT' : mu gG S = T
    · refine ⟨1, clK g, clM t, ?_, ?_, inv_cl hI⟩
      · unfold f_K_right f_I_balance
        rw [l1]
        simp only [ob]
        rw [g_C, mS]
        simp only [ob]
        rw [if_pos (cc1.mpr hT')]
        simp only [ob]
        rw [if_pos (by decide)]
        simp only [ob]
        unfold f_I_clear
        simp only [ob]
        rw [if_pos (by decide)]
        rfl
      · unfold f_M_right
        simp only [ob]
        rw [l3]
        simp only [ob]
        rw [if_neg (by decide), if_pos (cc2.mpr hT')]
        simp only [ob]
        rw [if_pos (by decide)]
        rfl
    · refine ⟨0, clK g, clM t, ?_, ?_, inv_cl hI⟩
      · unfold f_K_right f_I_balance
        rw [l1]
        simp only [ob]
        rw [g_C, mS]
        simp only [ob]
        rw [if_neg (fun h9 => hT' (cc1.mp h9))]
        simp only [ob]
        rw [if_pos (by decide)]
        simp only [ob]
        unfold f_I_clear
        simp only [ob]
        rw [if_pos (by decide)]
        rfl
      · unfold f_M_right
        simp only [ob]
        rw [l3]
        simp only [ob]
        rw [if_neg (by decide), if_neg (fun h9 => hT' (cc2.mp h9))]
        simp only [ob]
        rw [if_pos (by decide)]
        rfl
