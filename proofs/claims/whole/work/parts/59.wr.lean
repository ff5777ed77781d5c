/-! written, type -/
theorem u_m1 (a : Int32) : (a < -1) ↔ a.toInt < -1 := by
  rw [Int32.lt_iff_toInt_lt]
  exact Iff.rfl
theorem g_written : ag_written inv := by
  intro g o t a0 a1 a2 hI
  by_cases n0 : a0 < 0
  · refine mk_written_IAE (r := 0) (g1 := g) (t1 := thM t 1) ?_ ?_ rfl (inv_th hI 1)
    · unfold f_K_written
      rw [if_pos n0]
      simp only [ob, na_0]
    · unfold f_M_written
      rw [if_pos n0]
      simp only [ob]
      rw [if_neg (by decide)]
      simp only [ob]
      rfl
  obtain ⟨r, hr, rfl⟩ := nI_of n0
  by_cases n1 : a1 < 0
  · have n1' : ¬ 0 ≤ a1 := by
      rw [Int32.le_iff_toInt_le]
      rw [Int32.lt_iff_toInt_lt] at n1
      omega
    refine mk_written_IAE (r := 0) (g1 := g) (t1 := thM t 1) ?_ ?_ rfl (inv_th hI 1)
    · unfold f_K_written
      rw [if_neg n0, if_pos n1]
      simp only [ob, na_0]
    · unfold f_M_written
      rw [if_neg n0, if_neg n1']
      simp only [ob]
      rw [if_neg (by decide)]
      simp only [ob]
      rfl
  obtain ⟨s, hs, rfl⟩ := nI_of n1
  have n1' : 0 ≤ nI s := nI_pos' hs
  obtain ⟨B, hB1, hB2⟩ := s_layForm hr hs (thM t 0)
  have bl := fl_b r s
  have hl := s_O_length hr hs
  have hB1' : f_M_layForm (0, t.2.1, t.2.2.1, t.2.2.2.1, t.2.2.2.2.1, t.2.2.2.2.2.1, t.2.2.2.2.2.2.1, t.2.2.2.2.2.2.2.1, t.2.2.2.2.2.2.2.2.1, t.2.2.2.2.2.2.2.2.2.1, t.2.2.2.2.2.2.2.2.2.2.1, t.2.2.2.2.2.2.2.2.2.2.2.1, t.2.2.2.2.2.2.2.2.2.2.2.2) (nI r) (nI s) = some (fmM (thM t 0) (nI (fl r s)) B) := hB1
  have eM : ∀ {j j9 : Int32}, (if a2 < (-1) then (some (1) : Option (Int32)) else (if a2 < nI (fl r s) then (some (0)) else (some (1)))) = some j → (if j = 0 then (if 0 ≤ a2 then (if a2 < 0 ∨ 16 ≤ Int32.toNatClampNeg a2 then none else (some (B (Int32.toNatClampNeg a2)))) else (some (nI (fl r s))) : Option (Int32)) else (some (0))) = some j9 → f_M_written t (nI r) (nI s) a2 = some (j9, fmM (thM t j) (nI (fl r s)) B) := fun {j j9} h5 h6 => by
    unfold f_M_written
    rw [if_neg n0, if_pos n1', ob, if_pos rfl, hB1', ob]
    have e1 : (fmM (thM t 0) (nI (fl r s)) B).2.2.2.2.2.2.2.2.2.2.2.1 = nI (fl r s) := rfl
    rw [e1, h5, ob, ob]
    show Option.bind (if j = 0 then (if 0 ≤ a2 then (if a2 < 0 ∨ 16 ≤ Int32.toNatClampNeg a2 then none else (some (B (Int32.toNatClampNeg a2)))) else (some (nI (fl r s))) : Option (Int32)) else (some (0))) _ = _
    rw [h6, ob]
    rfl
  have eK : ∀ {w : Int32}, (if a2 < (-1) then (some (0) : Option (Int32)) else (if nI (fl r s) ≤ a2 then (some (0)) else (some (1)))) = some w → f_K_written g (nI r) (nI s) a2 = (Option.bind (f_K_needArgument w) (fun x13 => match x13 with | .error E9 => some (.error (E9, g)) | .ok _ => (Option.bind (if a2 = (-1) then (some (nI (fl r s)) : Option (Int32)) else (Option.bind (f_O_byteAt (nI r) (nI s) a2) (fun r20 => some (r20)))) (fun j16 => some (.ok (j16, g))))) : Option (Except (String × sK) (Int32 × sK))) := fun h5 => by
    unfold f_K_written
    rw [if_neg n0, if_neg n1]
    simp only [ob, na_1]
    rw [hl]
    simp only [ob]
    rw [h5]
    simp only [ob]
    rfl
  by_cases m1 : a2 < -1
  · refine mk_written_IAE (r := 0) (g1 := g) (t1 := fmM (thM t 1) (nI (fl r s)) B) ?_ (eM (j := 1) ?_ ?_) rfl (inv_fm (inv_th hI 1) _ _)
    · rw [eK (w := 0) (by rw [if_pos m1]), na_0, ob]
    · rw [if_pos m1]
    · rw [if_neg (by decide)]
  by_cases m2 : a2 < 0
  · have e2 : a2 = -1 := by
      apply Int32.toInt_inj.1
      have h1 : ¬ a2.toInt < -1 := fun h => m1 ((u_m1 a2).mpr h)
      have h2 := (u_lt0 a2).mp m2
      show a2.toInt = -1
      omega
    subst e2
    have m3 : (-1 : Int32) < nI (fl r s) := by
      rw [Int32.lt_iff_toInt_lt, nI_toInt (by omega)]
      show (-1 : Int) < _
      omega
    have m4 : ¬ nI (fl r s) ≤ (-1 : Int32) := by
      rw [Int32.le_iff_toInt_le, nI_toInt (by omega)]
      show ¬ _ ≤ (-1 : Int)
      omega
    refine mk_written (r := nI (fl r s)) (g1 := g) (t1 := fmM (thM t 0) (nI (fl r s)) B) ?_ (eM (j := 0) ?_ ?_) rfl (inv_fm (inv_th hI 0) _ _)
    · rw [eK (w := 1) (by rw [if_neg m1, if_neg m4]), na_1, ob]
      simp only [ob]
      rw [if_pos (by decide)]
      simp only [ob]
    · rw [if_neg m1, if_pos m3]
    · rw [if_pos rfl, if_neg (by decide)]
  obtain ⟨i, hi, rfl⟩ := nI_of m2
  have m5 : ¬ nI i = -1 := fun e => m2 (by rw [e]; decide)
  have m6 : 0 ≤ nI i := nI_pos' hi
  by_cases m3 : i < fl r s
  · have m7 := nI_in (show i < 16 by omega) (N := 16) (by decide)
    refine mk_written (r := nI (fb r s i)) (g1 := g) (t1 := fmM (thM t 0) (nI (fl r s)) B) ?_ (eM (j := 0) ?_ ?_) rfl (inv_fm (inv_th hI 0) _ _)
    · rw [eK (w := 1) (by rw [if_neg m1, if_neg (nI_ge m3 (by omega))]), na_1, ob]
      simp only [ob]
      rw [if_neg m5, s_O_byteAt hr hs m3]
      simp only [ob]
    · rw [if_neg m1, if_pos (nI_lt m3 (by omega))]
    · rw [if_pos rfl, if_pos m6, if_neg m7, nI_clamp hi, hB2 i m3]
  · refine mk_written_IAE (r := 0) (g1 := g) (t1 := fmM (thM t 1) (nI (fl r s)) B) ?_ (eM (j := 1) ?_ ?_) rfl (inv_fm (inv_th hI 1) _ _)
    · rw [eK (w := 0) (by rw [if_neg m1, if_pos (nI_le (by omega) hi)]), na_0, ob]
    · rw [if_neg m1, if_neg (nI_nlt (by omega) hi)]
    · rw [if_neg (by decide)]
def tyK (g : sK) (c : Nat) (b : Int32) : sK := (g.1, g.2.1, g.2.2.1, g.2.2.2.1, g.2.2.2.2.1, g.2.2.2.2.2.1, g.2.2.2.2.2.2.1, g.2.2.2.2.2.2.2.1, upd g.2.2.2.2.2.2.2.2.1 c b, nI (c + 1))
def tyM (t : sM) (c : Nat) (b : Int32) : sM := (0, t.2.1, t.2.2.1, t.2.2.2.1, t.2.2.2.2.1, t.2.2.2.2.2.1, t.2.2.2.2.2.2.1, t.2.2.2.2.2.2.2.1, t.2.2.2.2.2.2.2.2.1, nI (c + 1), upd t.2.2.2.2.2.2.2.2.2.2.1 c b, t.2.2.2.2.2.2.2.2.2.2.2.1, t.2.2.2.2.2.2.2.2.2.2.2.2)
theorem g_type : ag_type inv := by
  intro g o t a0 hI
  by_cases n0 : a0 < 0
  · refine mk_type_IAE (r := 0) (g1 := g) (t1 := thM t 1) ?_ ?_ rfl (inv_th hI 1)
    · unfold f_K_type
      rw [if_pos n0]
      simp only [ob, na_0]
    · unfold f_M_type
      rw [if_pos n0, ob, if_neg (by decide)]
      rfl
  obtain ⟨b, hb, rfl⟩ := nI_of n0
  by_cases n1 : b < 256
  rotate_left
  · have k1 : 255 < nI b := nI_lt (a := 255) (by omega) hb
    have k2 : ¬ nI b ≤ 255 := nI_ge (a := 255) (by omega) hb
    refine mk_type_IAE (r := 0) (g1 := g) (t1 := thM t 1) ?_ ?_ rfl (inv_th hI 1)
    · unfold f_K_type
      rw [if_neg n0, if_pos k1]
      simp only [ob, na_0]
    · unfold f_M_type
      rw [if_neg n0, if_neg k2, ob, if_neg (by decide)]
      rfl
  have k1 : ¬ 255 < nI b := nI_nlt (a := 255) (by omega) (by decide)
  have k2 : nI b ≤ 255 := nI_le (b := 255) (by omega) (by decide)
  obtain ⟨i1, i2, i3, ⟨c, hc, hcK⟩, i5, q1, q2, q3, q4, q5, q6, q7, q8⟩ := id hI
  have hq := q7.trans hcK
  by_cases c20 : c = 20
  · subst c20
    refine mk_type_UOE (r := 0) (g1 := g) (t1 := thM t 2) ?_ ?_ rfl (inv_th hI 2)
    · unfold f_K_type f_T_isFull
      rw [if_neg n0, if_neg k1]
      simp only [ob, na_1]
      rw [hcK, if_neg (by decide)]
      simp only [ob]
      rw [if_pos (by decide)]
      simp only [ob]
      rw [if_neg (by decide)]
    · unfold f_M_type
      have e20 : t.2.2.2.2.2.2.2.2.2.1 = 20 := hq
      rw [if_neg n0, if_pos k2, if_pos e20, ob, if_neg (by decide)]
      rfl
  · have hc2 : c < 20 := by omega
    have hne : ¬ nI c = 20 := nI_ne (n := 20) (by omega) (by decide) c20
    have hlt : nI c < 20 := nI_lt (b := 20) hc2 (by decide)
    have g1 := nI_in hc2 (N := 20) (by decide)
    refine mk_type (r := nI (c + 1)) (g1 := tyK g c (nI b)) (t1 := tyM t c (nI b)) ?_ ?_ rfl ?_
    · unfold f_K_type f_T_isFull
      rw [if_neg n0, if_neg k1]
      simp only [ob, na_1]
      rw [hcK, if_pos hlt]
      simp only [ob]
      rw [if_pos (by decide)]
      simp only [ob]
      rw [if_pos (by decide)]
      unfold f_T_put
      rw [hcK, if_neg g1, nI_clamp (by omega), nI_1]
      simp only [ob]
      rfl
    · unfold f_M_type
      rw [if_neg n0, if_pos k2, hq, if_neg hne, ob, if_pos rfl, if_neg g1, nI_clamp (by omega), nI_1]
      rfl
    · refine ⟨i1, i2, i3, ⟨c + 1, by omega, rfl⟩, ?_, q1, q2, q3, q4, q5, q6, rfl, ?_⟩
      · intro j
        show ∃ x : Nat, x < 256 ∧ (if j = c then nI b else g.2.2.2.2.2.2.2.2.1 j) = nI x
        by_cases e : j = c
        · rw [if_pos e]; exact ⟨b, n1, rfl⟩
        · rw [if_neg e]; exact i5 j
      · show upd _ _ _ = upd _ _ _
        rw [q8]
