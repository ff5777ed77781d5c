/-! What the class and the reference do with single points and numbers. -/
theorem s_F_has {z : Int} (h1 : -9223372036854775808 ≤ z) (h2 : z < 9223372036854775808) : f_F_has (li z) = some (if 0 ≤ z ∧ z < 1073735023 then 1 else 0) := by
  unfold f_F_has
  rw [l_0, l_p]
  by_cases c1 : z < 0
  · rw [if_pos ((lc_lt h1 h2 (by omega) (by omega)).mpr c1), if_neg (by omega), ob]
  · rw [if_neg (fun h => c1 ((lc_lt h1 h2 (by omega) (by omega)).mp h))]
    by_cases c2 : z < 1073735023
    · rw [if_neg (fun h => absurd ((lc_ge h1 h2 (by omega) (by omega)).mp h) (by omega)), if_pos (by omega), ob]
    · rw [if_pos ((lc_ge h1 h2 (by omega) (by omega)).mpr (by omega)), if_neg (by omega), ob]
theorem s_S_has {z : Int} (h1 : -9223372036854775808 ≤ z) (h2 : z < 9223372036854775808) : f_S_has (li z) = some (if 0 ≤ z ∧ z < 1073729077 then 1 else 0) := by
  unfold f_S_has
  rw [l_0, l_q]
  by_cases c1 : z < 0
  · rw [if_pos ((lc_lt h1 h2 (by omega) (by omega)).mpr c1), if_neg (by omega), ob]
  · rw [if_neg (fun h => c1 ((lc_lt h1 h2 (by omega) (by omega)).mp h))]
    by_cases c2 : z < 1073729077
    · rw [if_neg (fun h => absurd ((lc_ge h1 h2 (by omega) (by omega)).mp h) (by omega)), if_pos (by omega), ob]
    · rw [if_pos ((lc_ge h1 h2 (by omega) (by omega)).mpr (by omega)), if_neg (by omega), ob]
theorem s_S_isUnit {z : Int} (h1 : -9223372036854775808 ≤ z) (h2 : z < 9223372036854775808) : f_S_isUnit (li z) = some (if 1 ≤ z ∧ z < 1073729077 then 1 else 0) := by
  unfold f_S_isUnit
  rw [l_1, l_q]
  by_cases c1 : z < 1
  · rw [if_pos ((lc_lt h1 h2 (by omega) (by omega)).mpr c1), if_neg (by omega), ob]
  · rw [if_neg (fun h => c1 ((lc_lt h1 h2 (by omega) (by omega)).mp h))]
    by_cases c2 : z < 1073729077
    · rw [if_neg (fun h => absurd ((lc_ge h1 h2 (by omega) (by omega)).mp h) (by omega)), if_pos (by omega), ob]
    · rw [if_pos ((lc_ge h1 h2 (by omega) (by omega)).mpr (by omega)), if_neg (by omega), ob]
theorem s_par {z : Int} (h1 : 0 ≤ z) (h2 : z < 9223372036854775808) : (lg_cmp (li z - li z / 2 * 2) 1 = 0) ↔ z % 2 = 1 := by
  rw [l_2, l_1, li_remp h1 h2 (by omega) (by omega), lc_eq (by omega) (by omega) (by omega) (by omega)]
theorem s_C_isOdd (x y : fp) : f_C_isOdd (cC (some (x, y))) = some (pr y) := by
  have a1 := fv_0 x; have a2 := fv_p x; have a3 := fv_0 y; have a4 := fv_p y
  unfold f_C_isOdd pr
  rw [cC_some]
  have h := s_par (z := fv x * 4294967296 + fv y) (by omega) (by omega)
  by_cases c : fv y % 2 = 1
  · rw [if_pos (h.mpr (by omega)), if_pos c, ob]
  · rw [if_neg (fun h9 => c (by have := h.mp h9; omega)), if_neg c, ob]
theorem s_M_odd (x y : fp) : f_M_odd (cR (some (x, y))) = some (pr y) := by
  have a3 := fv_0 y; have a4 := fv_p y
  unfold f_M_odd pr
  rw [s_M_yOf]
  simp only [ob]
  have h := s_par (z := fv y) (by omega) (by omega)
  by_cases c : fv y % 2 = 1
  · rw [if_pos (h.mpr c), if_pos c, ob]
  · rw [if_neg (fun h9 => c (h.mp h9)), if_neg c, ob]
theorem s_C_negative {x y : fp} (h : ec_on (some (x, y))) : f_C_negative (cC (some (x, y))) = some (cC (some (x, 0 - y))) := by
  unfold f_C_negative
  rw [if_neg (fun h9 => absurd ((cC_0 h).mp h9) ne_none), s_C_xOf, s_C_yOf]
  simp only [ob]
  rw [l_w, l_p, li_mul, li_sub, li_add, cC_some, fv_ng (on_y h)]
theorem fv_fzs {z : Int} (h1 : 0 ≤ z) (h2 : z < 1073735023) : fv (fz z) = z := by rw [fv_fz, Int.emod_eq_of_lt h1 h2]
theorem lf_v {z : Int} (h1 : 0 ≤ z) (h2 : z < 1073735023) : ((((li z * li z) - (li z * li z) / 1073735023 * 1073735023) * li z) + 7) - ((((li z * li z) - (li z * li z) / 1073735023 * 1073735023) * li z) + 7) / 1073735023 * 1073735023 = li (fv (fz z * fz z * fz z + 7)) := by
  have b1 := mb h1 h2 h1 h2
  have q1 := Int.emod_nonneg (z * z) (show (1073735023 : Int) ≠ 0 by decide)
  have q2 := Int.emod_lt_of_pos (z * z) (show (0 : Int) < 1073735023 by decide)
  have b2 := mb q1 q2 h1 h2
  rw [l_p, l_7, li_mul, li_remp (by omega) (by omega) (by omega) (by omega)]
  generalize hw : z * z % 1073735023 = w at q1 q2 b2 ⊢
  rw [li_mul, li_add, li_remp (by omega) (by omega) (by omega) (by omega)]
  rw [← hw]
  rw [fe (show fz (z * z % 1073735023 * z + 7) = fz z * fz z * fz z + 7 by rw [fz_add, fz_mul, fz_mod, fz_mul, fz_7])]
theorem lf_sq (r : fp) : (li (fv r) * li (fv r)) - (li (fv r) * li (fv r)) / 1073735023 * 1073735023 = li (fv (r * r)) := by
  have a1 := fv_0 r; have a2 := fv_p r
  have b1 := mb a1 a2 a1 a2
  rw [l_p, li_mul, li_remp (by omega) (by omega) (by omega) (by omega), ← fv_mul]
theorem s_root (v : fp) : f_F_rootIfAny (li (fv v)) = some (li (fv (rt v))) := by
  obtain ⟨M, hM⟩ : ∃ M : Nat, M = 1073735023 := ⟨_, rfl⟩
  rw [rt_fv hM]
  exact s_F_root hM (by rw [hM]; exact v.isLt)
theorem s_pow (v : fp) : f_M_power (li (fv v)) 268433756 1073735023 = some (li (fv (rt v))) := by
  obtain ⟨M, hM⟩ : ∃ M : Nat, M = 1073735023 := ⟨_, rfl⟩
  have hv := v.isLt
  rw [rt_fv hM, l_pM hM, l_r]
  exact s_M_power (by omega) (by omega) (b := v.val) (e := 268433756) (by omega) (by omega)
theorem lift_out {z : Int} {a : Int32} (h : ¬ (0 ≤ z ∧ z < 1073735023)) : lift z a = none := by unfold lift; rw [if_neg h]
theorem lift_no {z : Int} {a : Int32} (h : ¬ rt (fz z * fz z * fz z + 7) * rt (fz z * fz z * fz z + 7) = fz z * fz z * fz z + 7) : lift z a = none := by unfold lift; rw [if_neg h]; split <;> rfl
theorem lift_eq {z : Int} {a : Int32} (h : 0 ≤ z ∧ z < 1073735023) (h2 : rt (fz z * fz z * fz z + 7) * rt (fz z * fz z * fz z + 7) = fz z * fz z * fz z + 7) (h3 : pr (rt (fz z * fz z * fz z + 7)) = a) : lift z a = some (fz z, rt (fz z * fz z * fz z + 7)) := by unfold lift; rw [if_pos h, if_pos h2, if_pos h3]
theorem lift_ne {z : Int} {a : Int32} (h : 0 ≤ z ∧ z < 1073735023) (h2 : rt (fz z * fz z * fz z + 7) * rt (fz z * fz z * fz z + 7) = fz z * fz z * fz z + 7) (h3 : ¬ pr (rt (fz z * fz z * fz z + 7)) = a) : lift z a = some (fz z, 0 - rt (fz z * fz z * fz z + 7)) := by unfold lift; rw [if_pos h, if_pos h2, if_neg h3]
theorem s_C_pointAt {z : Int} (h1 : -9223372036854775808 ≤ z) (h2 : z < 9223372036854775808) (a : Int32) : f_C_pointAt (li z) a = some (cC (lift z a)) := by
  unfold f_C_pointAt
  rw [s_F_has h1 h2]
  simp only [ob]
  by_cases h : 0 ≤ z ∧ z < 1073735023
  · rw [if_pos h, if_neg (by decide), lf_v h.1 h.2, s_root]
    simp only [ob]
    rw [lf_sq]
    by_cases c : rt (fz z * fz z * fz z + 7) * rt (fz z * fz z * fz z + 7) = fz z * fz z * fz z + 7
    · rw [if_pos (lx.mpr c)]
      have e : li z * 4294967296 + li (fv (rt (fz z * fz z * fz z + 7))) = cC (some (fz z, rt (fz z * fz z * fz z + 7))) := by
        rw [l_w, li_mul, li_add, cC_some, fv_fzs h.1 h.2]
      have ho : ec_on (some (fz z, rt (fz z * fz z * fz z + 7))) := fun p hp => by cases hp; exact c
      rw [e, s_C_isOdd, s_C_negative ho]
      simp only [ob]
      by_cases d : pr (rt (fz z * fz z * fz z + 7)) = a
      · rw [if_pos d, lift_eq h c d, ob]
      · rw [if_neg d, lift_ne h c d, ob]
    · rw [if_neg (fun h9 => c (lx.mp h9)), lift_no c]
      rfl
  · rw [if_neg h, if_pos rfl, lift_out h]
    rfl
theorem s_M_lift {z : Int} (h1 : -9223372036854775808 ≤ z) (h2 : z < 9223372036854775808) (a : Int32) : f_M_lift (li z) a = some (cR (lift z a)) := by
  unfold f_M_lift
  by_cases h : 0 ≤ z ∧ z < 1073735023
  · have n1 : ¬ lg_cmp (li z) 0 < 0 := by rw [l_0]; exact fun h9 => absurd ((lc_lt h1 h2 (by omega) (by omega)).mp h9) (by omega)
    have n2 : lg_cmp (li z) 1073735023 < 0 := by rw [l_p]; exact (lc_lt h1 h2 (by omega) (by omega)).mpr h.2
    rw [if_neg n1, if_pos n2, lf_v h.1 h.2]
    simp only [ob]
    rw [s_pow]
    simp only [ob]
    rw [lf_sq]
    by_cases c : rt (fz z * fz z * fz z + 7) * rt (fz z * fz z * fz z + 7) = fz z * fz z * fz z + 7
    · rw [if_pos (lx.mpr c)]
      have ho : ec_on (some (fz z, rt (fz z * fz z * fz z + 7))) := fun p hp => by cases hp; exact c
      have hy := on_y ho
      have e1 := fv_fzs h.1 h.2
      generalize hr : rt (fz z * fz z * fz z + 7) = r at ho hy
      have a3 := fv_0 r; have a4 := fv_p r
      have hp := s_par (z := fv r) (by omega) (by omega)
      have e2 : (if lg_cmp (li (fv r) - li (fv r) / 2 * 2) 1 = 0 then (some 1 : Option Int32) else some 0) = some (pr r) := by
        unfold pr
        by_cases c2 : fv r % 2 = 1
        · rw [if_pos (hp.mpr c2), if_pos c2]
        · rw [if_neg (fun h9 => c2 (hp.mp h9)), if_neg c2]
      rw [e2]
      simp only [ob]
      rw [l_p, l_v, li_mul, li_sub]
      by_cases d : pr r = a
      · rw [if_pos d, lift_eq h c (by rw [hr]; exact d), hr]
        simp only [ob]
        rw [li_add, cR_some, e1]
      · rw [if_neg d, lift_ne h c (by rw [hr]; exact d), hr]
        simp only [ob]
        rw [li_add, cR_some, e1, fv_ng hy]
    · rw [if_neg (fun h9 => c (lx.mp h9)), lift_no c]
      rfl
  · rw [lift_out h]
    by_cases c1 : z < 0
    · have n1 : lg_cmp (li z) 0 < 0 := by rw [l_0]; exact (lc_lt h1 h2 (by omega) (by omega)).mpr c1
      rw [if_pos n1]
      rfl
    · have n1 : ¬ lg_cmp (li z) 0 < 0 := by rw [l_0]; exact fun h9 => absurd ((lc_lt h1 h2 (by omega) (by omega)).mp h9) (by omega)
      have n2 : ¬ lg_cmp (li z) 1073735023 < 0 := by rw [l_p]; exact fun h9 => absurd ((lc_lt h1 h2 (by omega) (by omega)).mp h9) (by omega)
      rw [if_neg n1, if_neg n2]
      rfl
theorem lift_ev {x y : fp} (h : ec_on (some (x, y))) : lift (fv x) 0 = some (x, if pr y = 0 then y else 0 - y) := by
  by_cases c : pr y = 0
  · rw [if_pos c, ← c]; exact lift_uniq h
  · rw [if_neg c]
    have h1 := lift_uniq (ng_on h)
    rw [pr_other (on_y h) (Or.inl rfl) c] at h1
    exact h1
theorem s_C_evenOf {x y : fp} (h : ec_on (some (x, y))) : f_C_evenOf (cC (some (x, y))) = some (cC (lift (fv x) 0)) := by
  unfold f_C_evenOf
  rw [s_C_isOdd, s_C_negative h, lift_ev h]
  simp only [ob]
  by_cases c : pr y = 0
  · rw [if_pos c, if_pos c, ob]
  · rw [if_neg c, if_neg c, ob]
/-! codes -/
def cd : pt → Int64
  | none => 0
  | some p => li ((2 + fv p.2 % 2) * 4294967296 + fv p.1)
theorem s_C_toCode {P : pt} (h : ec_on P) : f_C_toCode (cC P) = some (cd P) := by
  unfold f_C_toCode
  cases P with
  | none => rw [if_pos ((cC_0 h).mpr rfl), ob]; rfl
  | some p =>
    obtain ⟨x, y⟩ := p
    have a1 := fv_0 x; have a2 := fv_p x; have a3 := fv_0 y; have a4 := fv_p y
    rw [if_neg (fun h9 => absurd ((cC_0 h).mp h9) ne_none), s_C_xOf, cC_some]
    simp only [ob]
    rw [l_2, l_w, li_remp (by omega) (by omega) (by omega) (by omega), li_add, li_mul, li_add]
    rw [show (fv x * 4294967296 + fv y) % 2 = fv y % 2 by omega]
    rfl
theorem s_M_codeOf (P : pt) : f_M_codeOf (cR P) = some (cd P) := by
  unfold f_M_codeOf
  cases P with
  | none => rw [if_pos ((cR_0 _).mpr rfl), ob]; rfl
  | some p =>
    obtain ⟨x, y⟩ := p
    have a1 := fv_0 x; have a2 := fv_p x; have a3 := fv_0 y; have a4 := fv_p y
    rw [if_neg (fun h9 => absurd ((cR_0 _).mp h9) ne_none), s_M_xOf, s_M_yOf]
    simp only [ob]
    rw [l_2, l_w, li_remp (by omega) (by omega) (by omega) (by omega), li_add, li_mul, li_add]
    rfl
def fc (z : Int) : pt := if z / 4294967296 = 2 then lift (z % 4294967296) 0 else if z / 4294967296 = 3 then lift (z % 4294967296) 1 else none
theorem fc_on (z : Int) : ec_on (fc z) := by
  unfold fc
  split
  · exact lift_on _ _
  · split
    · exact lift_on _ _
    · exact on_none
theorem li_shr {z : Int} (h1 : -9223372036854775808 ≤ z) (h2 : z < 9223372036854775808) : li z >>> ((Int32.toInt64 32) &&& 63) = li (z / 4294967296) := by
  apply Int64.toInt_inj.mp
  have hs : (((Int32.toInt64 32) &&& 63).toBitVec.smod 64).toNat = 32 := by decide
  have e : (li z >>> ((Int32.toInt64 32) &&& 63)).toInt = (li z).toInt >>> 32 := by
    show ((li z).toBitVec.sshiftRight (((Int32.toInt64 32) &&& 63).toBitVec.smod 64).toNat).toInt = _
    rw [hs, BitVec.toInt_sshiftRight]
    rfl
  rw [e, li_toInt h1 h2, li_toInt (by omega) (by omega), Int.shiftRight_eq_div_pow]
  rfl
theorem li_64 (z : Int) : li z = li (z + 18446744073709551616) := by
  rw [← li_add, show li 18446744073709551616 = 0 by decide +kernel, Int64.add_zero]
theorem li_ushr {z : Int} {k : Nat} (h0 : 0 ≤ z) (h2 : z < 18446744073709551616) (hk : k < 64) : ((li z).toUInt64 >>> ((Int32.toInt64 (nI k)).toUInt64 &&& Int64.toUInt64 63)).toInt64 = li (z / 2 ^ k) := by
  obtain ⟨n, rfl⟩ := Int.eq_ofNat_of_zero_le h0
  rw [li_n, wb_shr (by omega) hk, ← li_n, Int.natCast_ediv, Int.natCast_pow]
  rfl
theorem s_C_fromCode {z : Int} (h1 : -9223372036854775808 ≤ z) (h2 : z < 9223372036854775808) : f_C_fromCode (li z) = some (cC (fc z)) := by
  unfold f_C_fromCode fc
  rw [show (32 : Int32) = nI 32 by decide]
  by_cases h0 : 0 ≤ z
  · rw [li_ushr h0 (by omega) (by decide), show (2 : Int) ^ 32 = 4294967296 by decide, l_2, l_3, l_w, li_remp h0 h2 (by omega) (by omega)]
    simp only [ob]
    by_cases c2 : z / 4294967296 = 2
    · rw [if_pos ((lc_eq (by omega) (by omega) (by omega) (by omega)).mpr c2), if_neg (fun h9 => absurd ((lc_eq (by omega) (by omega) (by omega) (by omega)).mp h9) (by omega)), if_pos c2]
      simp only [ob]
      rw [s_C_pointAt (by omega) (by omega)]
      simp only [ob]
    · rw [if_neg (fun h9 => c2 ((lc_eq (by omega) (by omega) (by omega) (by omega)).mp h9)), if_neg c2]
      by_cases c3 : z / 4294967296 = 3
      · rw [if_pos ((lc_eq (by omega) (by omega) (by omega) (by omega)).mpr c3), if_pos ((lc_eq (by omega) (by omega) (by omega) (by omega)).mpr c3), if_pos c3]
        simp only [ob]
        rw [s_C_pointAt (by omega) (by omega)]
        simp only [ob]
      · rw [if_neg (fun h9 => c3 ((lc_eq (by omega) (by omega) (by omega) (by omega)).mp h9)), if_neg c3, ob]
        rfl
  · have e : ((li z).toUInt64 >>> ((Int32.toInt64 (nI 32)).toUInt64 &&& Int64.toUInt64 63)).toInt64 = li ((z + 18446744073709551616) / 4294967296) := by
      rw [li_64 z, li_ushr (by omega) (by omega) (by decide), show (2 : Int) ^ 32 = 4294967296 by decide]
    rw [e, l_2, l_3]
    simp only [ob]
    rw [if_neg (fun h9 => absurd ((lc_eq (by omega) (by omega) (by omega) (by omega)).mp h9) (by omega)), if_neg (fun h9 => absurd ((lc_eq (by omega) (by omega) (by omega) (by omega)).mp h9) (by omega)), ob, if_neg (by omega), if_neg (by omega)]
    rfl
theorem s_M_pointOf {z : Int} (h1 : -9223372036854775808 ≤ z) (h2 : z < 9223372036854775808) : f_M_pointOf (li z) = some (cR (fc z)) := by
  unfold f_M_pointOf fc
  rw [li_shr h1 h2, l_2, l_3, l_w]
  simp only [ob]
  rw [li_mul, li_sub, show z - z / 4294967296 * 4294967296 = z % 4294967296 by omega]
  by_cases c2 : z / 4294967296 = 2
  · rw [if_pos ((lc_eq (by omega) (by omega) (by omega) (by omega)).mpr c2), if_neg (fun h9 => absurd ((lc_eq (by omega) (by omega) (by omega) (by omega)).mp h9) (by omega)), if_pos c2]
    simp only [ob]
    rw [s_M_lift (by omega) (by omega)]
    simp only [ob]
  · rw [if_neg (fun h9 => c2 ((lc_eq (by omega) (by omega) (by omega) (by omega)).mp h9)), if_neg c2]
    by_cases c3 : z / 4294967296 = 3
    · rw [if_pos ((lc_eq (by omega) (by omega) (by omega) (by omega)).mpr c3), if_pos ((lc_eq (by omega) (by omega) (by omega) (by omega)).mpr c3), if_pos c3]
      simp only [ob]
      rw [s_M_lift (by omega) (by omega)]
      simp only [ob]
    · rw [if_neg (fun h9 => c3 ((lc_eq (by omega) (by omega) (by omega) (by omega)).mp h9)), if_neg c3, ob]
      rfl
