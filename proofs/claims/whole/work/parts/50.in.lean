/-! The invariant between the class's object and the reference's. -/
def rP (gp tp : Nat → Int64) : Prop := ∃ PP : Nat → pt, (∀ k, ec_on (PP k)) ∧ ∀ k, k < 6 → gp k = cC (PP k) ∧ tp k = cR (PP k)
def rS (gs : Nat → Int64) : Prop := ∀ k : Nat, ∃ d : Nat, d < 1073729077 ∧ gs k = li d
def rI (c : Nat) (ge tx : Nat → Int64) : Prop := ∀ i : Nat, i < c → ∃ x y : fp, ec_on (some (x, y)) ∧ pr y = 0 ∧ ge i = cC (some (x, y)) ∧ tx i = li (fv x)
def rB (gb : Nat → Int32) : Prop := ∀ i : Nat, ∃ b : Nat, b < 256 ∧ gb i = nI b
def inv (g : sK) (t : sM) : Prop := rP g.1 t.2.1 ∧ rS g.2.1 ∧ (∃ c : Nat, c ≤ 8 ∧ g.2.2.2.2.2.2.2.1 = nI c ∧ rI c g.2.2.2.1 t.2.2.2.2.2.1) ∧ (∃ c : Nat, c ≤ 20 ∧ g.2.2.2.2.2.2.2.2.2 = nI c) ∧ rB g.2.2.2.2.2.2.2.2.1 ∧ t.2.2.1 = g.2.1 ∧ t.2.2.2.1 = g.2.2.1 ∧ t.2.2.2.2.1 = g.2.2.2.2.2.2.2.1 ∧ t.2.2.2.2.2.2.1 = g.2.2.2.2.1 ∧ t.2.2.2.2.2.2.2.1 = g.2.2.2.2.2.1 ∧ t.2.2.2.2.2.2.2.2.1 = g.2.2.2.2.2.2.1 ∧ t.2.2.2.2.2.2.2.2.2.1 = g.2.2.2.2.2.2.2.2.2 ∧ t.2.2.2.2.2.2.2.2.2.2.1 = g.2.2.2.2.2.2.2.2.1
def fillK (g : sK) (k : Nat) (c s : Int64) : sK := (vp_updL g.1 k c, vp_updL g.2.1 k s, g.2.2.1, g.2.2.2.1, g.2.2.2.2.1, g.2.2.2.2.2.1, g.2.2.2.2.2.2.1, g.2.2.2.2.2.2.2.1, g.2.2.2.2.2.2.2.2.1, g.2.2.2.2.2.2.2.2.2)
def thM (t : sM) (j : Int32) : sM := (j, t.2.1, t.2.2.1, t.2.2.2.1, t.2.2.2.2.1, t.2.2.2.2.2.1, t.2.2.2.2.2.2.1, t.2.2.2.2.2.2.2.1, t.2.2.2.2.2.2.2.2.1, t.2.2.2.2.2.2.2.2.2.1, t.2.2.2.2.2.2.2.2.2.2.1, t.2.2.2.2.2.2.2.2.2.2.2.1, t.2.2.2.2.2.2.2.2.2.2.2.2)
def fillM (t : sM) (j : Int32) (k : Nat) (c s : Int64) : sM := (j, vp_updL t.2.1 k c, vp_updL t.2.2.1 k s, t.2.2.2.1, t.2.2.2.2.1, t.2.2.2.2.2.1, t.2.2.2.2.2.2.1, t.2.2.2.2.2.2.2.1, t.2.2.2.2.2.2.2.2.1, t.2.2.2.2.2.2.2.2.2.1, t.2.2.2.2.2.2.2.2.2.2.1, t.2.2.2.2.2.2.2.2.2.2.2.1, t.2.2.2.2.2.2.2.2.2.2.2.2)
def markK (g : sK) (m : Int32) : sK := (g.1, g.2.1, m, g.2.2.2.1, g.2.2.2.2.1, g.2.2.2.2.2.1, g.2.2.2.2.2.2.1, g.2.2.2.2.2.2.2.1, g.2.2.2.2.2.2.2.2.1, g.2.2.2.2.2.2.2.2.2)
def markM (t : sM) (j m : Int32) : sM := (j, t.2.1, t.2.2.1, m, t.2.2.2.2.1, t.2.2.2.2.2.1, t.2.2.2.2.2.2.1, t.2.2.2.2.2.2.2.1, t.2.2.2.2.2.2.2.2.1, t.2.2.2.2.2.2.2.2.2.1, t.2.2.2.2.2.2.2.2.2.2.1, t.2.2.2.2.2.2.2.2.2.2.2.1, t.2.2.2.2.2.2.2.2.2.2.2.2)
theorem inv_th {g : sK} {t : sM} (h : inv g t) (j : Int32) : inv g (thM t j) := h
theorem rP_upd {gp tp : Nat → Int64} (h : rP gp tp) {P : pt} (hP : ec_on P) (k : Nat) : rP (vp_updL gp k (cC P)) (vp_updL tp k (cR P)) := by
  obtain ⟨PP, h1, h2⟩ := h
  refine ⟨fun j => if j = k then P else PP j, fun j => ?_, fun j hj => ?_⟩
  · show ec_on (if j = k then P else PP j)
    split
    · exact hP
    · exact h1 j
  · show (if j = k then cC P else gp j) = cC (if j = k then P else PP j) ∧ (if j = k then cR P else tp j) = cR (if j = k then P else PP j)
    split
    · exact ⟨rfl, rfl⟩
    · exact h2 j hj
theorem rS_upd {gs : Nat → Int64} (h : rS gs) {d : Nat} (hd : d < 1073729077) (k : Nat) : rS (vp_updL gs k (li d)) := by
  intro j
  show ∃ e : Nat, e < 1073729077 ∧ (if j = k then li d else gs j) = li e
  split
  · exact ⟨d, hd, rfl⟩
  · exact h j
theorem inv_fill {g : sK} {t : sM} (h : inv g t) {P : pt} (hP : ec_on P) {d : Nat} (hd : d < 1073729077) (j : Int32) (k : Nat) : inv (fillK g k (cC P) (li d)) (fillM t j k (cR P) (li d)) := by
  obtain ⟨h1, h2, h3, h4, h5, e1, e2⟩ := h
  exact ⟨rP_upd h1 hP k, rS_upd h2 hd k, h3, h4, h5, by show vp_updL _ _ _ = vp_updL _ _ _; rw [e1], e2⟩
theorem inv_mark {g : sK} {t : sM} (h : inv g t) (j m : Int32) : inv (markK g m) (markM t j m) := by
  obtain ⟨h1, h2, h3, h4, h5, e1, _, e3⟩ := h
  exact ⟨h1, h2, h3, h4, h5, e1, rfl, e3⟩
theorem upd_same (f : Nat → Int64) (k : Nat) (x : Int64) : vp_updL f k x k = x := if_pos rfl
theorem upd_id (f : Nat → Int64) (k : Nat) (x : Int64) (h : f k = x) : vp_updL f k x = f := by
  funext j
  show (if j = k then x else f j) = f j
  split
  · rename_i e; rw [e, h]
  · rfl
/-! slots -/
theorem sl_k : ∀ k, k < 6 → f_K_needSlot (nI k) = some (.ok ()) := by
  intro k hk
  rcases (show k = 0 ∨ k = 1 ∨ k = 2 ∨ k = 3 ∨ k = 4 ∨ k = 5 by omega) with rfl | rfl | rfl | rfl | rfl | rfl <;> rfl
theorem sl_m : ∀ k, k < 6 → f_M_isSlot (nI k) = some 1 := by
  intro k hk
  rcases (show k = 0 ∨ k = 1 ∨ k = 2 ∨ k = 3 ∨ k = 4 ∨ k = 5 by omega) with rfl | rfl | rfl | rfl | rfl | rfl <;> rfl
theorem sl_g {k : Nat} (hk : k < 6) : ¬ (nI k < 0 ∨ 6 ≤ Int32.toNatClampNeg (nI k)) := nI_in hk (by decide)
theorem sl_h {k : Nat} (hk : k < 6) : ¬ (nI k < 0 ∨ 6 ≤ k) := fun h => by
  have := sl_g hk
  rw [show Int32.toNatClampNeg (nI k) = k from nI_clamp (by omega)] at this
  exact this h
theorem sl_c {k : Nat} (hk : k < 6) : Int32.toNatClampNeg (nI k) = k := nI_clamp (by omega)
theorem sl (a : Int32) : (∃ k, k < 6 ∧ a = nI k) ∨ (f_K_needSlot a = some (.error "java/lang/IndexOutOfBoundsException") ∧ f_M_isSlot a = some 0) := by
  by_cases h0 : a < 0
  · refine Or.inr ⟨?_, ?_⟩
    · unfold f_K_needSlot; rw [if_pos h0]
    · unfold f_M_isSlot; rw [if_pos h0, ob]
  · obtain ⟨k, hk, rfl⟩ := nI_of h0
    by_cases h1 : k < 6
    · exact Or.inl ⟨k, h1, rfl⟩
    · have c1 : ¬ nI k < 6 := nI_nlt (b := 6) (by omega) hk
      have c2 : 5 < nI k := nI_lt (a := 5) (by omega) hk
      refine Or.inr ⟨?_, ?_⟩
      · unfold f_K_needSlot; rw [if_neg h0, if_neg c1]
      · unfold f_M_isSlot; rw [if_neg h0, if_pos c2, ob]
theorem i64 (a : Int32) : Int32.toInt64 a = li a.toInt := (Int64.ofInt_int32ToInt a).symm
theorem i32_b (a : Int32) : -2147483648 ≤ a.toInt ∧ a.toInt < 2147483648 := ⟨by have := a.le_toInt; omega, by have := a.toInt_lt; omega⟩
theorem i32_lt {a : Int32} {n : Nat} (hn : n < 2147483648) : (a < nI n) ↔ a.toInt < n := by rw [Int32.lt_iff_toInt_lt, nI_toInt (by omega)]
theorem i32_le {a : Int32} {n : Nat} (hn : n < 2147483648) : (a ≤ nI n) ↔ a.toInt ≤ n := by rw [Int32.le_iff_toInt_le, nI_toInt (by omega)]
theorem na_0 : f_K_needArgument 0 = some (.error "java/lang/IllegalArgumentException") := rfl
theorem na_1 : f_K_needArgument 1 = some (.ok ()) := rfl
/-! points and secrets out of a slot -/
theorem s_K_pointOf_no {g : sK} {k : Nat} (hk : k < 6) (h : g.1 k = cC none) : f_K_pointOf g (nI k) = some (.error ("java/util/NoSuchElementException", g)) := by
  unfold f_K_pointOf
  rw [if_neg (sl_g hk), sl_c hk, h, if_pos (by decide)]
theorem s_K_pointOf {g : sK} {k : Nat} (hk : k < 6) {P : pt} (hP : ec_on P) (h0 : P ≠ none) (h : g.1 k = cC P) : f_K_pointOf g (nI k) = some (.ok (cC P, g)) := by
  unfold f_K_pointOf
  rw [if_neg (sl_g hk), sl_c hk, h, if_neg (fun h9 => h0 ((cC_0 hP).mp h9)), if_neg (sl_h hk)]
theorem s_M_full_no {t : sM} {k : Nat} (hk : k < 6) (h : t.2.1 k = cR none) : f_M_full t (nI k) = some (0, t) := by
  unfold f_M_full
  rw [if_neg (sl_g hk), sl_c hk, h, if_pos (by decide), ob, if_pos (by decide)]
theorem s_M_full {t : sM} {k : Nat} (hk : k < 6) {P : pt} (h0 : P ≠ none) (h : t.2.1 k = cR P) : f_M_full t (nI k) = some (1, t) := by
  unfold f_M_full
  rw [if_neg (sl_g hk), sl_c hk, h, if_neg (fun h9 => h0 ((cR_0 P).mp h9)), ob, if_pos (by decide)]
theorem s_M_noPoint_no {t : sM} {k : Nat} (hk : k < 6) (h : t.2.1 k = cR none) : f_M_noPoint t (nI k) = some (2, t) := by
  unfold f_M_noPoint
  rw [sl_m k hk, s_M_full_no hk h]
  simp only [ob]
  rfl
theorem s_M_noPoint {t : sM} {k : Nat} (hk : k < 6) {P : pt} (h0 : P ≠ none) (h : t.2.1 k = cR P) : f_M_noPoint t (nI k) = some (0, t) := by
  unfold f_M_noPoint
  rw [sl_m k hk, s_M_full hk h0 h]
  simp only [ob]
  rfl
theorem s_M_noPoint_er {t : sM} {a : Int32} (h : f_M_isSlot a = some 0) : f_M_noPoint t a = some (1, t) := by
  unfold f_M_noPoint
  rw [h]
  simp only [ob]
  rfl
theorem s_K_secretOf_no {g : sK} {k : Nat} (hk : k < 6) (h : g.2.1 k = li ((0 : Nat) : Int)) : f_K_secretOf g (nI k) = some (.error ("java/lang/IllegalStateException", g)) := by
  have h2 : lg_cmp (g.2.1 k) 0 = 0 := by rw [h]; decide
  unfold f_K_secretOf
  rw [if_neg (sl_g hk), sl_c hk, if_pos h2]
theorem li_ne0 {d : Nat} (hd : d < 1073729077) (h0 : d ≠ 0) : ¬ lg_cmp (li (d : Int)) 0 = 0 := by
  rw [l_0, lc_eq (by omega) (by omega) (by omega) (by omega)]; omega
theorem s_K_secretOf {g : sK} {k d : Nat} (hk : k < 6) (hd : d < 1073729077) (h0 : d ≠ 0) (h : g.2.1 k = li (d : Int)) : f_K_secretOf g (nI k) = some (.ok (li (d : Int), g)) := by
  unfold f_K_secretOf
  rw [if_neg (sl_g hk), sl_c hk, h, if_neg (li_ne0 hd h0), if_neg (sl_h hk)]
theorem s_M_noSecret_no {t : sM} {k : Nat} (hk : k < 6) (h : t.2.2.1 k = li ((0 : Nat) : Int)) : f_M_noSecret t (nI k) = some (2, t) := by
  have h2 : lg_cmp (t.2.2.1 k) 0 = 0 := by rw [h]; decide
  unfold f_M_noSecret
  rw [sl_m k hk]
  simp only [ob]
  rw [if_neg (by decide), if_neg (sl_g hk), sl_c hk, if_pos h2]
  simp only [ob]
theorem s_M_noSecret {t : sM} {k d : Nat} (hk : k < 6) (hd : d < 1073729077) (h0 : d ≠ 0) (h : t.2.2.1 k = li (d : Int)) : f_M_noSecret t (nI k) = some (0, t) := by
  unfold f_M_noSecret
  rw [sl_m k hk]
  simp only [ob]
  rw [if_neg (by decide), if_neg (sl_g hk), sl_c hk, h, if_neg (li_ne0 hd h0)]
  simp only [ob]
theorem s_M_noSecret_er {t : sM} {a : Int32} (h : f_M_isSlot a = some 0) : f_M_noSecret t a = some (1, t) := by
  unfold f_M_noSecret
  rw [h]
  simp only [ob]
  rfl
theorem s_K_fill (g : sK) {k : Nat} (hk : k < 6) {P : pt} (hP : ec_on P) (s : Int64) : f_K_fill g (nI k) (cC P) s = some (cd P, fillK g k (cC P) s) := by
  unfold f_K_fill
  rw [if_neg (sl_g hk), if_neg (sl_g hk), s_C_toCode hP, ob, sl_c hk]
  rfl
theorem s_M_lay (t : sM) {k : Nat} (hk : k < 6) (c : Int64) : f_M_lay t (nI k) c = some (fillM t t.1 k c 0) := by
  unfold f_M_lay
  rw [if_neg (sl_g hk), if_neg (sl_g hk), sl_c hk]
  rfl
theorem g_C : (4411025356 : Int64) = cC gG := gG_C.symm
theorem g_M : f_M_g = some (cR gG) := by rw [gG_R]; rfl
theorem s_sm {P Q : pt} (hP : ec_on P) (hQ : ec_on Q) {a b : Nat} (ha : a < 1073741824) (hb : b < 1073741824) : f_C_sumOfMultiples (li a) (cC P) (li b) (cC Q) = some (cC (ad (mu P a) (mu Q b))) := by
  unfold f_C_sumOfMultiples
  rw [s_C_multiple hP ha, s_C_multiple hQ hb]
  simp only [ob]
  rw [s_C_sum (on_mu hP _) (on_mu hQ _), ob]
theorem s_M_isScalar (a : Int32) : f_M_isScalar a = some (if 0 ≤ a.toInt ∧ a.toInt < 1073729077 then 1 else 0) := by
  have hb := i32_b a
  unfold f_M_isScalar
  rw [i64, l_q]
  by_cases c1 : a < 0
  · have := (i32_lt (n := 0) (by omega)).mp c1
    rw [if_pos c1, if_neg (by omega), ob]
  · have h0 : ¬ a.toInt < 0 := fun h => c1 ((i32_lt (n := 0) (by omega)).mpr h)
    rw [if_neg c1]
    by_cases c2 : a.toInt < 1073729077
    · rw [if_neg (fun h => absurd ((lc_ge (by omega) (by omega) (by omega) (by omega)).mp h) (by omega)), if_pos (by omega), ob]
    · rw [if_pos ((lc_ge (by omega) (by omega) (by omega) (by omega)).mpr (by omega)), if_neg (by omega), ob]
theorem cz_C {P : pt} (hP : ec_on P) : (if lg_cmp (cC P) 0 = 0 then (some 0 : Option Int32) else some 1) = some (if P = none then 0 else 1) := by
  by_cases h : P = none
  · rw [if_pos ((cC_0 hP).mpr h), if_pos h]
  · rw [if_neg (fun h9 => h ((cC_0 hP).mp h9)), if_neg h]
theorem mk_secret_IOOB {g : sK} {o : Nat → Int64} {t : sM} {a0 : Int32} {a1 : Int32} {g1 : sK} {r : Int64} {t1 : sM} (h1 : f_K_secret g a0 a1 = some (.error ("java/lang/IndexOutOfBoundsException", g1))) (h2 : f_M_secret t a0 a1 = some (r, t1)) (h3 : t1.1 = 1) (hI : inv g1 t1) : ∃ k r g1 o1 t1, f_L_secret (g, o) a0 a1 = some (k, (g1, o1)) ∧ f_M_secret t a0 a1 = some (r, t1) ∧ t1.1 = k ∧ (k = 0 → o1 (Int32.toNatClampNeg 0) = r) ∧ inv g1 t1 := by
  refine ⟨1, r, g1, o, t1, ?_, h2, h3, fun h => absurd h (by decide), hI⟩
  unfold f_L_secret
  simp only [h1, ob] <;> rw [if_pos trivial]
theorem mk_secret_IAE {g : sK} {o : Nat → Int64} {t : sM} {a0 : Int32} {a1 : Int32} {g1 : sK} {r : Int64} {t1 : sM} (h1 : f_K_secret g a0 a1 = some (.error ("java/lang/IllegalArgumentException", g1))) (h2 : f_M_secret t a0 a1 = some (r, t1)) (h3 : t1.1 = 2) (hI : inv g1 t1) : ∃ k r g1 o1 t1, f_L_secret (g, o) a0 a1 = some (k, (g1, o1)) ∧ f_M_secret t a0 a1 = some (r, t1) ∧ t1.1 = k ∧ (k = 0 → o1 (Int32.toNatClampNeg 0) = r) ∧ inv g1 t1 := by
  refine ⟨2, r, g1, o, t1, ?_, h2, h3, fun h => absurd h (by decide), hI⟩
  unfold f_L_secret
  simp only [h1, ob] <;> rw [if_neg (by decide), if_pos trivial]
theorem mk_secret {g : sK} {o : Nat → Int64} {t : sM} {a0 : Int32} {a1 : Int32} {g1 : sK} {r : Int64} {t1 : sM} (h1 : f_K_secret g a0 a1 = some (.ok (r, g1))) (h2 : f_M_secret t a0 a1 = some (r, t1)) (h3 : t1.1 = 0) (hI : inv g1 t1) : ∃ k r g1 o1 t1, f_L_secret (g, o) a0 a1 = some (k, (g1, o1)) ∧ f_M_secret t a0 a1 = some (r, t1) ∧ t1.1 = k ∧ (k = 0 → o1 (Int32.toNatClampNeg 0) = r) ∧ inv g1 t1 := by
  refine ⟨0, r, g1, vp_updL o (Int32.toNatClampNeg 0) (r), t1, ?_, h2, h3, fun _ => upd_same _ _ _, hI⟩
  unfold f_L_secret
  simp only [h1, ob]
theorem mk_open_IOOB {g : sK} {o : Nat → Int64} {t : sM} {a0 : Int32} {a1 : Int64} {g1 : sK} {t1 : sM} (h1 : f_K_open g a0 a1 = some (.error ("java/lang/IndexOutOfBoundsException", g1))) (h2 : f_M_open t a0 a1 = some t1) (h3 : t1.1 = 1) (hI : inv g1 t1) : ∃ k g1 o1 t1, f_L_open (g, o) a0 a1 = some (k, (g1, o1)) ∧ f_M_open t a0 a1 = some t1 ∧ t1.1 = k ∧ inv g1 t1 := by
  refine ⟨1, g1, o, t1, ?_, h2, h3, hI⟩
  unfold f_L_open
  simp only [h1, ob] <;> rw [if_pos trivial]
theorem mk_open_IAE {g : sK} {o : Nat → Int64} {t : sM} {a0 : Int32} {a1 : Int64} {g1 : sK} {t1 : sM} (h1 : f_K_open g a0 a1 = some (.error ("java/lang/IllegalArgumentException", g1))) (h2 : f_M_open t a0 a1 = some t1) (h3 : t1.1 = 2) (hI : inv g1 t1) : ∃ k g1 o1 t1, f_L_open (g, o) a0 a1 = some (k, (g1, o1)) ∧ f_M_open t a0 a1 = some t1 ∧ t1.1 = k ∧ inv g1 t1 := by
  refine ⟨2, g1, o, t1, ?_, h2, h3, hI⟩
  unfold f_L_open
  simp only [h1, ob] <;> rw [if_neg (by decide), if_pos trivial]
theorem mk_open {g : sK} {o : Nat → Int64} {t : sM} {a0 : Int32} {a1 : Int64} {g1 : sK} {t1 : sM} (h1 : f_K_open g a0 a1 = some (.ok g1)) (h2 : f_M_open t a0 a1 = some t1) (h3 : t1.1 = 0) (hI : inv g1 t1) : ∃ k g1 o1 t1, f_L_open (g, o) a0 a1 = some (k, (g1, o1)) ∧ f_M_open t a0 a1 = some t1 ∧ t1.1 = k ∧ inv g1 t1 := by
  refine ⟨0, g1, o, t1, ?_, h2, h3, hI⟩
  unfold f_L_open
  simp only [h1, ob]
theorem mk_code_IOOB {g : sK} {o : Nat → Int64} {t : sM} {a0 : Int32} {g1 : sK} {r : Int64} {t1 : sM} (h1 : f_K_code g a0 = some (.error ("java/lang/IndexOutOfBoundsException", g1))) (h2 : f_M_code t a0 = some (r, t1)) (h3 : t1.1 = 1) (hI : inv g1 t1) : ∃ k r g1 o1 t1, f_L_code (g, o) a0 = some (k, (g1, o1)) ∧ f_M_code t a0 = some (r, t1) ∧ t1.1 = k ∧ (k = 0 → o1 (Int32.toNatClampNeg 0) = r) ∧ inv g1 t1 := by
  refine ⟨1, r, g1, o, t1, ?_, h2, h3, fun h => absurd h (by decide), hI⟩
  unfold f_L_code
  simp only [h1, ob] <;> rw [if_pos trivial]
theorem mk_code {g : sK} {o : Nat → Int64} {t : sM} {a0 : Int32} {g1 : sK} {r : Int64} {t1 : sM} (h1 : f_K_code g a0 = some (.ok (r, g1))) (h2 : f_M_code t a0 = some (r, t1)) (h3 : t1.1 = 0) (hI : inv g1 t1) : ∃ k r g1 o1 t1, f_L_code (g, o) a0 = some (k, (g1, o1)) ∧ f_M_code t a0 = some (r, t1) ∧ t1.1 = k ∧ (k = 0 → o1 (Int32.toNatClampNeg 0) = r) ∧ inv g1 t1 := by
  refine ⟨0, r, g1, vp_updL o (Int32.toNatClampNeg 0) (r), t1, ?_, h2, h3, fun _ => upd_same _ _ _, hI⟩
  unfold f_L_code
  simp only [h1, ob]
theorem mk_tweak_IOOB {g : sK} {o : Nat → Int64} {t : sM} {a0 : Int32} {a1 : Int32} {a2 : Int32} {g1 : sK} {r : Int64} {t1 : sM} (h1 : f_K_tweak g a0 a1 a2 = some (.error ("java/lang/IndexOutOfBoundsException", g1))) (h2 : f_M_tweak t a0 a1 a2 = some (r, t1)) (h3 : t1.1 = 1) (hI : inv g1 t1) : ∃ k r g1 o1 t1, f_L_tweak (g, o) a0 a1 a2 = some (k, (g1, o1)) ∧ f_M_tweak t a0 a1 a2 = some (r, t1) ∧ t1.1 = k ∧ (k = 0 → o1 (Int32.toNatClampNeg 0) = r) ∧ inv g1 t1 := by
  refine ⟨1, r, g1, o, t1, ?_, h2, h3, fun h => absurd h (by decide), hI⟩
  unfold f_L_tweak
  simp only [h1, ob] <;> rw [if_pos trivial]
theorem mk_tweak_NSE {g : sK} {o : Nat → Int64} {t : sM} {a0 : Int32} {a1 : Int32} {a2 : Int32} {g1 : sK} {r : Int64} {t1 : sM} (h1 : f_K_tweak g a0 a1 a2 = some (.error ("java/util/NoSuchElementException", g1))) (h2 : f_M_tweak t a0 a1 a2 = some (r, t1)) (h3 : t1.1 = 2) (hI : inv g1 t1) : ∃ k r g1 o1 t1, f_L_tweak (g, o) a0 a1 a2 = some (k, (g1, o1)) ∧ f_M_tweak t a0 a1 a2 = some (r, t1) ∧ t1.1 = k ∧ (k = 0 → o1 (Int32.toNatClampNeg 0) = r) ∧ inv g1 t1 := by
  refine ⟨2, r, g1, o, t1, ?_, h2, h3, fun h => absurd h (by decide), hI⟩
  unfold f_L_tweak
  simp only [h1, ob] <;> rw [if_neg (by decide), if_pos trivial]
theorem mk_tweak_IAE {g : sK} {o : Nat → Int64} {t : sM} {a0 : Int32} {a1 : Int32} {a2 : Int32} {g1 : sK} {r : Int64} {t1 : sM} (h1 : f_K_tweak g a0 a1 a2 = some (.error ("java/lang/IllegalArgumentException", g1))) (h2 : f_M_tweak t a0 a1 a2 = some (r, t1)) (h3 : t1.1 = 3) (hI : inv g1 t1) : ∃ k r g1 o1 t1, f_L_tweak (g, o) a0 a1 a2 = some (k, (g1, o1)) ∧ f_M_tweak t a0 a1 a2 = some (r, t1) ∧ t1.1 = k ∧ (k = 0 → o1 (Int32.toNatClampNeg 0) = r) ∧ inv g1 t1 := by
  refine ⟨3, r, g1, o, t1, ?_, h2, h3, fun h => absurd h (by decide), hI⟩
  unfold f_L_tweak
  simp only [h1, ob] <;> rw [if_neg (by decide), if_neg (by decide), if_pos trivial]
theorem mk_tweak {g : sK} {o : Nat → Int64} {t : sM} {a0 : Int32} {a1 : Int32} {a2 : Int32} {g1 : sK} {r : Int64} {t1 : sM} (h1 : f_K_tweak g a0 a1 a2 = some (.ok (r, g1))) (h2 : f_M_tweak t a0 a1 a2 = some (r, t1)) (h3 : t1.1 = 0) (hI : inv g1 t1) : ∃ k r g1 o1 t1, f_L_tweak (g, o) a0 a1 a2 = some (k, (g1, o1)) ∧ f_M_tweak t a0 a1 a2 = some (r, t1) ∧ t1.1 = k ∧ (k = 0 → o1 (Int32.toNatClampNeg 0) = r) ∧ inv g1 t1 := by
  refine ⟨0, r, g1, vp_updL o (Int32.toNatClampNeg 0) (r), t1, ?_, h2, h3, fun _ => upd_same _ _ _, hI⟩
  unfold f_L_tweak
  simp only [h1, ob]
theorem mk_combine_IOOB {g : sK} {o : Nat → Int64} {t : sM} {a0 : Int32} {a1 : Int32} {a2 : Int32} {g1 : sK} {r : Int64} {t1 : sM} (h1 : f_K_combine g a0 a1 a2 = some (.error ("java/lang/IndexOutOfBoundsException", g1))) (h2 : f_M_combine t a0 a1 a2 = some (r, t1)) (h3 : t1.1 = 1) (hI : inv g1 t1) : ∃ k r g1 o1 t1, f_L_combine (g, o) a0 a1 a2 = some (k, (g1, o1)) ∧ f_M_combine t a0 a1 a2 = some (r, t1) ∧ t1.1 = k ∧ (k = 0 → o1 (Int32.toNatClampNeg 0) = r) ∧ inv g1 t1 := by
  refine ⟨1, r, g1, o, t1, ?_, h2, h3, fun h => absurd h (by decide), hI⟩
  unfold f_L_combine
  simp only [h1, ob] <;> rw [if_pos trivial]
theorem mk_combine_NSE {g : sK} {o : Nat → Int64} {t : sM} {a0 : Int32} {a1 : Int32} {a2 : Int32} {g1 : sK} {r : Int64} {t1 : sM} (h1 : f_K_combine g a0 a1 a2 = some (.error ("java/util/NoSuchElementException", g1))) (h2 : f_M_combine t a0 a1 a2 = some (r, t1)) (h3 : t1.1 = 2) (hI : inv g1 t1) : ∃ k r g1 o1 t1, f_L_combine (g, o) a0 a1 a2 = some (k, (g1, o1)) ∧ f_M_combine t a0 a1 a2 = some (r, t1) ∧ t1.1 = k ∧ (k = 0 → o1 (Int32.toNatClampNeg 0) = r) ∧ inv g1 t1 := by
  refine ⟨2, r, g1, o, t1, ?_, h2, h3, fun h => absurd h (by decide), hI⟩
  unfold f_L_combine
  simp only [h1, ob] <;> rw [if_neg (by decide), if_pos trivial]
theorem mk_combine_IAE {g : sK} {o : Nat → Int64} {t : sM} {a0 : Int32} {a1 : Int32} {a2 : Int32} {g1 : sK} {r : Int64} {t1 : sM} (h1 : f_K_combine g a0 a1 a2 = some (.error ("java/lang/IllegalArgumentException", g1))) (h2 : f_M_combine t a0 a1 a2 = some (r, t1)) (h3 : t1.1 = 3) (hI : inv g1 t1) : ∃ k r g1 o1 t1, f_L_combine (g, o) a0 a1 a2 = some (k, (g1, o1)) ∧ f_M_combine t a0 a1 a2 = some (r, t1) ∧ t1.1 = k ∧ (k = 0 → o1 (Int32.toNatClampNeg 0) = r) ∧ inv g1 t1 := by
  refine ⟨3, r, g1, o, t1, ?_, h2, h3, fun h => absurd h (by decide), hI⟩
  unfold f_L_combine
  simp only [h1, ob] <;> rw [if_neg (by decide), if_neg (by decide), if_pos trivial]
theorem mk_combine {g : sK} {o : Nat → Int64} {t : sM} {a0 : Int32} {a1 : Int32} {a2 : Int32} {g1 : sK} {r : Int64} {t1 : sM} (h1 : f_K_combine g a0 a1 a2 = some (.ok (r, g1))) (h2 : f_M_combine t a0 a1 a2 = some (r, t1)) (h3 : t1.1 = 0) (hI : inv g1 t1) : ∃ k r g1 o1 t1, f_L_combine (g, o) a0 a1 a2 = some (k, (g1, o1)) ∧ f_M_combine t a0 a1 a2 = some (r, t1) ∧ t1.1 = k ∧ (k = 0 → o1 (Int32.toNatClampNeg 0) = r) ∧ inv g1 t1 := by
  refine ⟨0, r, g1, vp_updL o (Int32.toNatClampNeg 0) (r), t1, ?_, h2, h3, fun _ => upd_same _ _ _, hI⟩
  unfold f_L_combine
  simp only [h1, ob]
theorem mk_linear_IOOB {g : sK} {o : Nat → Int64} {t : sM} {a0 : Int32} {a1 : Int32} {a2 : Int32} {g1 : sK} {r : Int64} {t1 : sM} (h1 : f_K_linear g a0 a1 a2 = some (.error ("java/lang/IndexOutOfBoundsException", g1))) (h2 : f_M_linear t a0 a1 a2 = some (r, t1)) (h3 : t1.1 = 1) (hI : inv g1 t1) : ∃ k r g1 o1 t1, f_L_linear (g, o) a0 a1 a2 = some (k, (g1, o1)) ∧ f_M_linear t a0 a1 a2 = some (r, t1) ∧ t1.1 = k ∧ (k = 0 → o1 (Int32.toNatClampNeg 0) = r) ∧ inv g1 t1 := by
  refine ⟨1, r, g1, o, t1, ?_, h2, h3, fun h => absurd h (by decide), hI⟩
  unfold f_L_linear
  simp only [h1, ob] <;> rw [if_pos trivial]
theorem mk_linear_NSE {g : sK} {o : Nat → Int64} {t : sM} {a0 : Int32} {a1 : Int32} {a2 : Int32} {g1 : sK} {r : Int64} {t1 : sM} (h1 : f_K_linear g a0 a1 a2 = some (.error ("java/util/NoSuchElementException", g1))) (h2 : f_M_linear t a0 a1 a2 = some (r, t1)) (h3 : t1.1 = 2) (hI : inv g1 t1) : ∃ k r g1 o1 t1, f_L_linear (g, o) a0 a1 a2 = some (k, (g1, o1)) ∧ f_M_linear t a0 a1 a2 = some (r, t1) ∧ t1.1 = k ∧ (k = 0 → o1 (Int32.toNatClampNeg 0) = r) ∧ inv g1 t1 := by
  refine ⟨2, r, g1, o, t1, ?_, h2, h3, fun h => absurd h (by decide), hI⟩
  unfold f_L_linear
  simp only [h1, ob] <;> rw [if_neg (by decide), if_pos trivial]
theorem mk_linear_IAE {g : sK} {o : Nat → Int64} {t : sM} {a0 : Int32} {a1 : Int32} {a2 : Int32} {g1 : sK} {r : Int64} {t1 : sM} (h1 : f_K_linear g a0 a1 a2 = some (.error ("java/lang/IllegalArgumentException", g1))) (h2 : f_M_linear t a0 a1 a2 = some (r, t1)) (h3 : t1.1 = 3) (hI : inv g1 t1) : ∃ k r g1 o1 t1, f_L_linear (g, o) a0 a1 a2 = some (k, (g1, o1)) ∧ f_M_linear t a0 a1 a2 = some (r, t1) ∧ t1.1 = k ∧ (k = 0 → o1 (Int32.toNatClampNeg 0) = r) ∧ inv g1 t1 := by
  refine ⟨3, r, g1, o, t1, ?_, h2, h3, fun h => absurd h (by decide), hI⟩
  unfold f_L_linear
  simp only [h1, ob] <;> rw [if_neg (by decide), if_neg (by decide), if_pos trivial]
theorem mk_linear {g : sK} {o : Nat → Int64} {t : sM} {a0 : Int32} {a1 : Int32} {a2 : Int32} {g1 : sK} {r : Int64} {t1 : sM} (h1 : f_K_linear g a0 a1 a2 = some (.ok (r, g1))) (h2 : f_M_linear t a0 a1 a2 = some (r, t1)) (h3 : t1.1 = 0) (hI : inv g1 t1) : ∃ k r g1 o1 t1, f_L_linear (g, o) a0 a1 a2 = some (k, (g1, o1)) ∧ f_M_linear t a0 a1 a2 = some (r, t1) ∧ t1.1 = k ∧ (k = 0 → o1 (Int32.toNatClampNeg 0) = r) ∧ inv g1 t1 := by
  refine ⟨0, r, g1, vp_updL o (Int32.toNatClampNeg 0) (r), t1, ?_, h2, h3, fun _ => upd_same _ _ _, hI⟩
  unfold f_L_linear
  simp only [h1, ob]
theorem mk_sign_IOOB {g : sK} {o : Nat → Int64} {t : sM} {a0 : Int32} {a1 : Int64} {g1 : sK} {r : Int64} {t1 : sM} (h1 : f_K_sign g a0 a1 = some (.error ("java/lang/IndexOutOfBoundsException", g1))) (h2 : f_M_sign t a0 a1 = some (r, t1)) (h3 : t1.1 = 1) (hI : inv g1 t1) : ∃ k r g1 o1 t1, f_L_sign (g, o) a0 a1 = some (k, (g1, o1)) ∧ f_M_sign t a0 a1 = some (r, t1) ∧ t1.1 = k ∧ (k = 0 → o1 (Int32.toNatClampNeg 0) = r) ∧ inv g1 t1 := by
  refine ⟨1, r, g1, o, t1, ?_, h2, h3, fun h => absurd h (by decide), hI⟩
  unfold f_L_sign
  simp only [h1, ob] <;> rw [if_pos trivial]
theorem mk_sign_ISE {g : sK} {o : Nat → Int64} {t : sM} {a0 : Int32} {a1 : Int64} {g1 : sK} {r : Int64} {t1 : sM} (h1 : f_K_sign g a0 a1 = some (.error ("java/lang/IllegalStateException", g1))) (h2 : f_M_sign t a0 a1 = some (r, t1)) (h3 : t1.1 = 2) (hI : inv g1 t1) : ∃ k r g1 o1 t1, f_L_sign (g, o) a0 a1 = some (k, (g1, o1)) ∧ f_M_sign t a0 a1 = some (r, t1) ∧ t1.1 = k ∧ (k = 0 → o1 (Int32.toNatClampNeg 0) = r) ∧ inv g1 t1 := by
  refine ⟨2, r, g1, o, t1, ?_, h2, h3, fun h => absurd h (by decide), hI⟩
  unfold f_L_sign
  simp only [h1, ob] <;> rw [if_neg (by decide), if_pos trivial]
theorem mk_sign_UOE {g : sK} {o : Nat → Int64} {t : sM} {a0 : Int32} {a1 : Int64} {g1 : sK} {r : Int64} {t1 : sM} (h1 : f_K_sign g a0 a1 = some (.error ("java/lang/UnsupportedOperationException", g1))) (h2 : f_M_sign t a0 a1 = some (r, t1)) (h3 : t1.1 = 3) (hI : inv g1 t1) : ∃ k r g1 o1 t1, f_L_sign (g, o) a0 a1 = some (k, (g1, o1)) ∧ f_M_sign t a0 a1 = some (r, t1) ∧ t1.1 = k ∧ (k = 0 → o1 (Int32.toNatClampNeg 0) = r) ∧ inv g1 t1 := by
  refine ⟨3, r, g1, o, t1, ?_, h2, h3, fun h => absurd h (by decide), hI⟩
  unfold f_L_sign
  simp only [h1, ob] <;> rw [if_neg (by decide), if_neg (by decide), if_pos trivial]
theorem mk_sign {g : sK} {o : Nat → Int64} {t : sM} {a0 : Int32} {a1 : Int64} {g1 : sK} {r : Int64} {t1 : sM} (h1 : f_K_sign g a0 a1 = some (.ok (r, g1))) (h2 : f_M_sign t a0 a1 = some (r, t1)) (h3 : t1.1 = 0) (hI : inv g1 t1) : ∃ k r g1 o1 t1, f_L_sign (g, o) a0 a1 = some (k, (g1, o1)) ∧ f_M_sign t a0 a1 = some (r, t1) ∧ t1.1 = k ∧ (k = 0 → o1 (Int32.toNatClampNeg 0) = r) ∧ inv g1 t1 := by
  refine ⟨0, r, g1, vp_updL o (Int32.toNatClampNeg 0) (r), t1, ?_, h2, h3, fun _ => upd_same _ _ _, hI⟩
  unfold f_L_sign
  simp only [h1, ob]
theorem mk_good_IOOB {g : sK} {o : Nat → Int64} {t : sM} {a0 : Int32} {a1 : Int64} {a2 : Int32} {a3 : Int32} {g1 : sK} {r : Int32} {t1 : sM} (h1 : f_K_good g a0 a1 a2 a3 = some (.error ("java/lang/IndexOutOfBoundsException", g1))) (h2 : f_M_good t a0 a1 a2 a3 = some (r, t1)) (h3 : t1.1 = 1) (hI : inv g1 t1) : ∃ k r g1 o1 t1, f_L_good (g, o) a0 a1 a2 a3 = some (k, (g1, o1)) ∧ f_M_good t a0 a1 a2 a3 = some (r, t1) ∧ t1.1 = k ∧ (k = 0 → o1 (Int32.toNatClampNeg 0) = if r = 0 then 0 else 1) ∧ inv g1 t1 := by
  refine ⟨1, r, g1, o, t1, ?_, h2, h3, fun h => absurd h (by decide), hI⟩
  unfold f_L_good
  simp only [h1, ob] <;> rw [if_pos trivial]
theorem mk_good_NSE {g : sK} {o : Nat → Int64} {t : sM} {a0 : Int32} {a1 : Int64} {a2 : Int32} {a3 : Int32} {g1 : sK} {r : Int32} {t1 : sM} (h1 : f_K_good g a0 a1 a2 a3 = some (.error ("java/util/NoSuchElementException", g1))) (h2 : f_M_good t a0 a1 a2 a3 = some (r, t1)) (h3 : t1.1 = 2) (hI : inv g1 t1) : ∃ k r g1 o1 t1, f_L_good (g, o) a0 a1 a2 a3 = some (k, (g1, o1)) ∧ f_M_good t a0 a1 a2 a3 = some (r, t1) ∧ t1.1 = k ∧ (k = 0 → o1 (Int32.toNatClampNeg 0) = if r = 0 then 0 else 1) ∧ inv g1 t1 := by
  refine ⟨2, r, g1, o, t1, ?_, h2, h3, fun h => absurd h (by decide), hI⟩
  unfold f_L_good
  simp only [h1, ob] <;> rw [if_neg (by decide), if_pos trivial]
theorem mk_good {g : sK} {o : Nat → Int64} {t : sM} {a0 : Int32} {a1 : Int64} {a2 : Int32} {a3 : Int32} {g1 : sK} {r : Int32} {t1 : sM} (h1 : f_K_good g a0 a1 a2 a3 = some (.ok (r, g1))) (h2 : f_M_good t a0 a1 a2 a3 = some (r, t1)) (h3 : t1.1 = 0) (hI : inv g1 t1) : ∃ k r g1 o1 t1, f_L_good (g, o) a0 a1 a2 a3 = some (k, (g1, o1)) ∧ f_M_good t a0 a1 a2 a3 = some (r, t1) ∧ t1.1 = k ∧ (k = 0 → o1 (Int32.toNatClampNeg 0) = if r = 0 then 0 else 1) ∧ inv g1 t1 := by
  refine ⟨0, r, g1, vp_updL o (Int32.toNatClampNeg 0) (if r = 0 then 0 else 1), t1, ?_, h2, h3, fun _ => upd_same _ _ _, hI⟩
  unfold f_L_good
  simp only [h1, ob]
  by_cases h9 : r = 0
  · rw [if_pos h9, if_pos h9]
  · rw [if_neg h9, if_neg h9]
theorem mk_recover_IOOB {g : sK} {o : Nat → Int64} {t : sM} {a0 : Int32} {a1 : Int64} {a2 : Int32} {a3 : Int32} {a4 : Int32} {g1 : sK} {r : Int64} {t1 : sM} (h1 : f_K_recover g a0 a1 a2 a3 a4 = some (.error ("java/lang/IndexOutOfBoundsException", g1))) (h2 : f_M_recover t a0 a1 a2 a3 a4 = some (r, t1)) (h3 : t1.1 = 1) (hI : inv g1 t1) : ∃ k r g1 o1 t1, f_L_recover (g, o) a0 a1 a2 a3 a4 = some (k, (g1, o1)) ∧ f_M_recover t a0 a1 a2 a3 a4 = some (r, t1) ∧ t1.1 = k ∧ (k = 0 → o1 (Int32.toNatClampNeg 0) = r) ∧ inv g1 t1 := by
  refine ⟨1, r, g1, o, t1, ?_, h2, h3, fun h => absurd h (by decide), hI⟩
  unfold f_L_recover
  simp only [h1, ob] <;> rw [if_pos trivial]
theorem mk_recover_IAE {g : sK} {o : Nat → Int64} {t : sM} {a0 : Int32} {a1 : Int64} {a2 : Int32} {a3 : Int32} {a4 : Int32} {g1 : sK} {r : Int64} {t1 : sM} (h1 : f_K_recover g a0 a1 a2 a3 a4 = some (.error ("java/lang/IllegalArgumentException", g1))) (h2 : f_M_recover t a0 a1 a2 a3 a4 = some (r, t1)) (h3 : t1.1 = 2) (hI : inv g1 t1) : ∃ k r g1 o1 t1, f_L_recover (g, o) a0 a1 a2 a3 a4 = some (k, (g1, o1)) ∧ f_M_recover t a0 a1 a2 a3 a4 = some (r, t1) ∧ t1.1 = k ∧ (k = 0 → o1 (Int32.toNatClampNeg 0) = r) ∧ inv g1 t1 := by
  refine ⟨2, r, g1, o, t1, ?_, h2, h3, fun h => absurd h (by decide), hI⟩
  unfold f_L_recover
  simp only [h1, ob] <;> rw [if_neg (by decide), if_pos trivial]
theorem mk_recover {g : sK} {o : Nat → Int64} {t : sM} {a0 : Int32} {a1 : Int64} {a2 : Int32} {a3 : Int32} {a4 : Int32} {g1 : sK} {r : Int64} {t1 : sM} (h1 : f_K_recover g a0 a1 a2 a3 a4 = some (.ok (r, g1))) (h2 : f_M_recover t a0 a1 a2 a3 a4 = some (r, t1)) (h3 : t1.1 = 0) (hI : inv g1 t1) : ∃ k r g1 o1 t1, f_L_recover (g, o) a0 a1 a2 a3 a4 = some (k, (g1, o1)) ∧ f_M_recover t a0 a1 a2 a3 a4 = some (r, t1) ∧ t1.1 = k ∧ (k = 0 → o1 (Int32.toNatClampNeg 0) = r) ∧ inv g1 t1 := by
  refine ⟨0, r, g1, vp_updL o (Int32.toNatClampNeg 0) (r), t1, ?_, h2, h3, fun _ => upd_same _ _ _, hI⟩
  unfold f_L_recover
  simp only [h1, ob]
theorem mk_prove_IOOB {g : sK} {o : Nat → Int64} {t : sM} {a0 : Int32} {a1 : Int64} {a2 : Int64} {g1 : sK} {r : Int64} {t1 : sM} (h1 : f_K_prove g a0 a1 a2 = some (.error ("java/lang/IndexOutOfBoundsException", g1))) (h2 : f_M_prove t a0 a1 a2 = some (r, t1)) (h3 : t1.1 = 1) (hI : inv g1 t1) : ∃ k r g1 o1 t1, f_L_prove (g, o) a0 a1 a2 = some (k, (g1, o1)) ∧ f_M_prove t a0 a1 a2 = some (r, t1) ∧ t1.1 = k ∧ (k = 0 → o1 (Int32.toNatClampNeg 0) = r) ∧ inv g1 t1 := by
  refine ⟨1, r, g1, o, t1, ?_, h2, h3, fun h => absurd h (by decide), hI⟩
  unfold f_L_prove
  simp only [h1, ob] <;> rw [if_pos trivial]
theorem mk_prove_ISE {g : sK} {o : Nat → Int64} {t : sM} {a0 : Int32} {a1 : Int64} {a2 : Int64} {g1 : sK} {r : Int64} {t1 : sM} (h1 : f_K_prove g a0 a1 a2 = some (.error ("java/lang/IllegalStateException", g1))) (h2 : f_M_prove t a0 a1 a2 = some (r, t1)) (h3 : t1.1 = 2) (hI : inv g1 t1) : ∃ k r g1 o1 t1, f_L_prove (g, o) a0 a1 a2 = some (k, (g1, o1)) ∧ f_M_prove t a0 a1 a2 = some (r, t1) ∧ t1.1 = k ∧ (k = 0 → o1 (Int32.toNatClampNeg 0) = r) ∧ inv g1 t1 := by
  refine ⟨2, r, g1, o, t1, ?_, h2, h3, fun h => absurd h (by decide), hI⟩
  unfold f_L_prove
  simp only [h1, ob] <;> rw [if_neg (by decide), if_pos trivial]
theorem mk_prove_UOE {g : sK} {o : Nat → Int64} {t : sM} {a0 : Int32} {a1 : Int64} {a2 : Int64} {g1 : sK} {r : Int64} {t1 : sM} (h1 : f_K_prove g a0 a1 a2 = some (.error ("java/lang/UnsupportedOperationException", g1))) (h2 : f_M_prove t a0 a1 a2 = some (r, t1)) (h3 : t1.1 = 3) (hI : inv g1 t1) : ∃ k r g1 o1 t1, f_L_prove (g, o) a0 a1 a2 = some (k, (g1, o1)) ∧ f_M_prove t a0 a1 a2 = some (r, t1) ∧ t1.1 = k ∧ (k = 0 → o1 (Int32.toNatClampNeg 0) = r) ∧ inv g1 t1 := by
  refine ⟨3, r, g1, o, t1, ?_, h2, h3, fun h => absurd h (by decide), hI⟩
  unfold f_L_prove
  simp only [h1, ob] <;> rw [if_neg (by decide), if_neg (by decide), if_pos trivial]
theorem mk_prove {g : sK} {o : Nat → Int64} {t : sM} {a0 : Int32} {a1 : Int64} {a2 : Int64} {g1 : sK} {r : Int64} {t1 : sM} (h1 : f_K_prove g a0 a1 a2 = some (.ok (r, g1))) (h2 : f_M_prove t a0 a1 a2 = some (r, t1)) (h3 : t1.1 = 0) (hI : inv g1 t1) : ∃ k r g1 o1 t1, f_L_prove (g, o) a0 a1 a2 = some (k, (g1, o1)) ∧ f_M_prove t a0 a1 a2 = some (r, t1) ∧ t1.1 = k ∧ (k = 0 → o1 (Int32.toNatClampNeg 0) = r) ∧ inv g1 t1 := by
  refine ⟨0, r, g1, vp_updL o (Int32.toNatClampNeg 0) (r), t1, ?_, h2, h3, fun _ => upd_same _ _ _, hI⟩
  unfold f_L_prove
  simp only [h1, ob]
theorem mk_holds_IOOB {g : sK} {o : Nat → Int64} {t : sM} {a0 : Int32} {a1 : Int64} {a2 : Int32} {a3 : Int32} {g1 : sK} {r : Int32} {t1 : sM} (h1 : f_K_holds g a0 a1 a2 a3 = some (.error ("java/lang/IndexOutOfBoundsException", g1))) (h2 : f_M_holds t a0 a1 a2 a3 = some (r, t1)) (h3 : t1.1 = 1) (hI : inv g1 t1) : ∃ k r g1 o1 t1, f_L_holds (g, o) a0 a1 a2 a3 = some (k, (g1, o1)) ∧ f_M_holds t a0 a1 a2 a3 = some (r, t1) ∧ t1.1 = k ∧ (k = 0 → o1 (Int32.toNatClampNeg 0) = if r = 0 then 0 else 1) ∧ inv g1 t1 := by
  refine ⟨1, r, g1, o, t1, ?_, h2, h3, fun h => absurd h (by decide), hI⟩
  unfold f_L_holds
  simp only [h1, ob] <;> rw [if_pos trivial]
theorem mk_holds_NSE {g : sK} {o : Nat → Int64} {t : sM} {a0 : Int32} {a1 : Int64} {a2 : Int32} {a3 : Int32} {g1 : sK} {r : Int32} {t1 : sM} (h1 : f_K_holds g a0 a1 a2 a3 = some (.error ("java/util/NoSuchElementException", g1))) (h2 : f_M_holds t a0 a1 a2 a3 = some (r, t1)) (h3 : t1.1 = 2) (hI : inv g1 t1) : ∃ k r g1 o1 t1, f_L_holds (g, o) a0 a1 a2 a3 = some (k, (g1, o1)) ∧ f_M_holds t a0 a1 a2 a3 = some (r, t1) ∧ t1.1 = k ∧ (k = 0 → o1 (Int32.toNatClampNeg 0) = if r = 0 then 0 else 1) ∧ inv g1 t1 := by
  refine ⟨2, r, g1, o, t1, ?_, h2, h3, fun h => absurd h (by decide), hI⟩
  unfold f_L_holds
  simp only [h1, ob] <;> rw [if_neg (by decide), if_pos trivial]
theorem mk_holds {g : sK} {o : Nat → Int64} {t : sM} {a0 : Int32} {a1 : Int64} {a2 : Int32} {a3 : Int32} {g1 : sK} {r : Int32} {t1 : sM} (h1 : f_K_holds g a0 a1 a2 a3 = some (.ok (r, g1))) (h2 : f_M_holds t a0 a1 a2 a3 = some (r, t1)) (h3 : t1.1 = 0) (hI : inv g1 t1) : ∃ k r g1 o1 t1, f_L_holds (g, o) a0 a1 a2 a3 = some (k, (g1, o1)) ∧ f_M_holds t a0 a1 a2 a3 = some (r, t1) ∧ t1.1 = k ∧ (k = 0 → o1 (Int32.toNatClampNeg 0) = if r = 0 then 0 else 1) ∧ inv g1 t1 := by
  refine ⟨0, r, g1, vp_updL o (Int32.toNatClampNeg 0) (if r = 0 then 0 else 1), t1, ?_, h2, h3, fun _ => upd_same _ _ _, hI⟩
  unfold f_L_holds
  simp only [h1, ob]
  by_cases h9 : r = 0
  · rw [if_pos h9, if_pos h9]
  · rw [if_neg h9, if_neg h9]
theorem mk_bundle_IOOB {g : sK} {o : Nat → Int64} {t : sM} {a0 : Int32} {a1 : Int64} {a2 : Int32} {a3 : Int32} {g1 : sK} {r : Int32} {t1 : sM} (h1 : f_K_bundle g a0 a1 a2 a3 = some (.error ("java/lang/IndexOutOfBoundsException", g1))) (h2 : f_M_bundle t a0 a1 a2 a3 = some (r, t1)) (h3 : t1.1 = 1) (hI : inv g1 t1) : ∃ k r g1 o1 t1, f_L_bundle (g, o) a0 a1 a2 a3 = some (k, (g1, o1)) ∧ f_M_bundle t a0 a1 a2 a3 = some (r, t1) ∧ t1.1 = k ∧ (k = 0 → o1 (Int32.toNatClampNeg 0) = Int32.toInt64 r) ∧ inv g1 t1 := by
  refine ⟨1, r, g1, o, t1, ?_, h2, h3, fun h => absurd h (by decide), hI⟩
  unfold f_L_bundle
  simp only [h1, ob] <;> rw [if_pos trivial]
theorem mk_bundle_NSE {g : sK} {o : Nat → Int64} {t : sM} {a0 : Int32} {a1 : Int64} {a2 : Int32} {a3 : Int32} {g1 : sK} {r : Int32} {t1 : sM} (h1 : f_K_bundle g a0 a1 a2 a3 = some (.error ("java/util/NoSuchElementException", g1))) (h2 : f_M_bundle t a0 a1 a2 a3 = some (r, t1)) (h3 : t1.1 = 2) (hI : inv g1 t1) : ∃ k r g1 o1 t1, f_L_bundle (g, o) a0 a1 a2 a3 = some (k, (g1, o1)) ∧ f_M_bundle t a0 a1 a2 a3 = some (r, t1) ∧ t1.1 = k ∧ (k = 0 → o1 (Int32.toNatClampNeg 0) = Int32.toInt64 r) ∧ inv g1 t1 := by
  refine ⟨2, r, g1, o, t1, ?_, h2, h3, fun h => absurd h (by decide), hI⟩
  unfold f_L_bundle
  simp only [h1, ob] <;> rw [if_neg (by decide), if_pos trivial]
theorem mk_bundle_UOE {g : sK} {o : Nat → Int64} {t : sM} {a0 : Int32} {a1 : Int64} {a2 : Int32} {a3 : Int32} {g1 : sK} {r : Int32} {t1 : sM} (h1 : f_K_bundle g a0 a1 a2 a3 = some (.error ("java/lang/UnsupportedOperationException", g1))) (h2 : f_M_bundle t a0 a1 a2 a3 = some (r, t1)) (h3 : t1.1 = 3) (hI : inv g1 t1) : ∃ k r g1 o1 t1, f_L_bundle (g, o) a0 a1 a2 a3 = some (k, (g1, o1)) ∧ f_M_bundle t a0 a1 a2 a3 = some (r, t1) ∧ t1.1 = k ∧ (k = 0 → o1 (Int32.toNatClampNeg 0) = Int32.toInt64 r) ∧ inv g1 t1 := by
  refine ⟨3, r, g1, o, t1, ?_, h2, h3, fun h => absurd h (by decide), hI⟩
  unfold f_L_bundle
  simp only [h1, ob] <;> rw [if_neg (by decide), if_neg (by decide), if_pos trivial]
theorem mk_bundle {g : sK} {o : Nat → Int64} {t : sM} {a0 : Int32} {a1 : Int64} {a2 : Int32} {a3 : Int32} {g1 : sK} {r : Int32} {t1 : sM} (h1 : f_K_bundle g a0 a1 a2 a3 = some (.ok (r, g1))) (h2 : f_M_bundle t a0 a1 a2 a3 = some (r, t1)) (h3 : t1.1 = 0) (hI : inv g1 t1) : ∃ k r g1 o1 t1, f_L_bundle (g, o) a0 a1 a2 a3 = some (k, (g1, o1)) ∧ f_M_bundle t a0 a1 a2 a3 = some (r, t1) ∧ t1.1 = k ∧ (k = 0 → o1 (Int32.toNatClampNeg 0) = Int32.toInt64 r) ∧ inv g1 t1 := by
  refine ⟨0, r, g1, vp_updL o (Int32.toNatClampNeg 0) (Int32.toInt64 r), t1, ?_, h2, h3, fun _ => upd_same _ _ _, hI⟩
  unfold f_L_bundle
  simp only [h1, ob]
theorem mk_agree_IOOB {g : sK} {o : Nat → Int64} {t : sM} {a0 : Int32} {a1 : Int32} {g1 : sK} {r : Int64} {t1 : sM} (h1 : f_K_agree g a0 a1 = some (.error ("java/lang/IndexOutOfBoundsException", g1))) (h2 : f_M_agree t a0 a1 = some (r, t1)) (h3 : t1.1 = 1) (hI : inv g1 t1) : ∃ k r g1 o1 t1, f_L_agree (g, o) a0 a1 = some (k, (g1, o1)) ∧ f_M_agree t a0 a1 = some (r, t1) ∧ t1.1 = k ∧ (k = 0 → o1 (Int32.toNatClampNeg 0) = r) ∧ inv g1 t1 := by
  refine ⟨1, r, g1, o, t1, ?_, h2, h3, fun h => absurd h (by decide), hI⟩
  unfold f_L_agree
  simp only [h1, ob] <;> rw [if_pos trivial]
theorem mk_agree_ISE {g : sK} {o : Nat → Int64} {t : sM} {a0 : Int32} {a1 : Int32} {g1 : sK} {r : Int64} {t1 : sM} (h1 : f_K_agree g a0 a1 = some (.error ("java/lang/IllegalStateException", g1))) (h2 : f_M_agree t a0 a1 = some (r, t1)) (h3 : t1.1 = 2) (hI : inv g1 t1) : ∃ k r g1 o1 t1, f_L_agree (g, o) a0 a1 = some (k, (g1, o1)) ∧ f_M_agree t a0 a1 = some (r, t1) ∧ t1.1 = k ∧ (k = 0 → o1 (Int32.toNatClampNeg 0) = r) ∧ inv g1 t1 := by
  refine ⟨2, r, g1, o, t1, ?_, h2, h3, fun h => absurd h (by decide), hI⟩
  unfold f_L_agree
  simp only [h1, ob] <;> rw [if_neg (by decide), if_pos trivial]
theorem mk_agree_NSE {g : sK} {o : Nat → Int64} {t : sM} {a0 : Int32} {a1 : Int32} {g1 : sK} {r : Int64} {t1 : sM} (h1 : f_K_agree g a0 a1 = some (.error ("java/util/NoSuchElementException", g1))) (h2 : f_M_agree t a0 a1 = some (r, t1)) (h3 : t1.1 = 3) (hI : inv g1 t1) : ∃ k r g1 o1 t1, f_L_agree (g, o) a0 a1 = some (k, (g1, o1)) ∧ f_M_agree t a0 a1 = some (r, t1) ∧ t1.1 = k ∧ (k = 0 → o1 (Int32.toNatClampNeg 0) = r) ∧ inv g1 t1 := by
  refine ⟨3, r, g1, o, t1, ?_, h2, h3, fun h => absurd h (by decide), hI⟩
  unfold f_L_agree
  simp only [h1, ob] <;> rw [if_neg (by decide), if_neg (by decide), if_pos trivial]
theorem mk_agree {g : sK} {o : Nat → Int64} {t : sM} {a0 : Int32} {a1 : Int32} {g1 : sK} {r : Int64} {t1 : sM} (h1 : f_K_agree g a0 a1 = some (.ok (r, g1))) (h2 : f_M_agree t a0 a1 = some (r, t1)) (h3 : t1.1 = 0) (hI : inv g1 t1) : ∃ k r g1 o1 t1, f_L_agree (g, o) a0 a1 = some (k, (g1, o1)) ∧ f_M_agree t a0 a1 = some (r, t1) ∧ t1.1 = k ∧ (k = 0 → o1 (Int32.toNatClampNeg 0) = r) ∧ inv g1 t1 := by
  refine ⟨0, r, g1, vp_updL o (Int32.toNatClampNeg 0) (r), t1, ?_, h2, h3, fun _ => upd_same _ _ _, hI⟩
  unfold f_L_agree
  simp only [h1, ob]
theorem mk_written_IAE {g : sK} {o : Nat → Int64} {t : sM} {a0 : Int32} {a1 : Int32} {a2 : Int32} {g1 : sK} {r : Int32} {t1 : sM} (h1 : f_K_written g a0 a1 a2 = some (.error ("java/lang/IllegalArgumentException", g1))) (h2 : f_M_written t a0 a1 a2 = some (r, t1)) (h3 : t1.1 = 1) (hI : inv g1 t1) : ∃ k r g1 o1 t1, f_L_written (g, o) a0 a1 a2 = some (k, (g1, o1)) ∧ f_M_written t a0 a1 a2 = some (r, t1) ∧ t1.1 = k ∧ (k = 0 → o1 (Int32.toNatClampNeg 0) = Int32.toInt64 r) ∧ inv g1 t1 := by
  refine ⟨1, r, g1, o, t1, ?_, h2, h3, fun h => absurd h (by decide), hI⟩
  unfold f_L_written
  simp only [h1, ob] <;> rw [if_pos trivial]
theorem mk_written {g : sK} {o : Nat → Int64} {t : sM} {a0 : Int32} {a1 : Int32} {a2 : Int32} {g1 : sK} {r : Int32} {t1 : sM} (h1 : f_K_written g a0 a1 a2 = some (.ok (r, g1))) (h2 : f_M_written t a0 a1 a2 = some (r, t1)) (h3 : t1.1 = 0) (hI : inv g1 t1) : ∃ k r g1 o1 t1, f_L_written (g, o) a0 a1 a2 = some (k, (g1, o1)) ∧ f_M_written t a0 a1 a2 = some (r, t1) ∧ t1.1 = k ∧ (k = 0 → o1 (Int32.toNatClampNeg 0) = Int32.toInt64 r) ∧ inv g1 t1 := by
  refine ⟨0, r, g1, vp_updL o (Int32.toNatClampNeg 0) (Int32.toInt64 r), t1, ?_, h2, h3, fun _ => upd_same _ _ _, hI⟩
  unfold f_L_written
  simp only [h1, ob]
theorem mk_type_IAE {g : sK} {o : Nat → Int64} {t : sM} {a0 : Int32} {g1 : sK} {r : Int32} {t1 : sM} (h1 : f_K_type g a0 = some (.error ("java/lang/IllegalArgumentException", g1))) (h2 : f_M_type t a0 = some (r, t1)) (h3 : t1.1 = 1) (hI : inv g1 t1) : ∃ k r g1 o1 t1, f_L_type (g, o) a0 = some (k, (g1, o1)) ∧ f_M_type t a0 = some (r, t1) ∧ t1.1 = k ∧ (k = 0 → o1 (Int32.toNatClampNeg 0) = Int32.toInt64 r) ∧ inv g1 t1 := by
  refine ⟨1, r, g1, o, t1, ?_, h2, h3, fun h => absurd h (by decide), hI⟩
  unfold f_L_type
  simp only [h1, ob] <;> rw [if_pos trivial]
theorem mk_type_UOE {g : sK} {o : Nat → Int64} {t : sM} {a0 : Int32} {g1 : sK} {r : Int32} {t1 : sM} (h1 : f_K_type g a0 = some (.error ("java/lang/UnsupportedOperationException", g1))) (h2 : f_M_type t a0 = some (r, t1)) (h3 : t1.1 = 2) (hI : inv g1 t1) : ∃ k r g1 o1 t1, f_L_type (g, o) a0 = some (k, (g1, o1)) ∧ f_M_type t a0 = some (r, t1) ∧ t1.1 = k ∧ (k = 0 → o1 (Int32.toNatClampNeg 0) = Int32.toInt64 r) ∧ inv g1 t1 := by
  refine ⟨2, r, g1, o, t1, ?_, h2, h3, fun h => absurd h (by decide), hI⟩
  unfold f_L_type
  simp only [h1, ob] <;> rw [if_neg (by decide), if_pos trivial]
theorem mk_type {g : sK} {o : Nat → Int64} {t : sM} {a0 : Int32} {g1 : sK} {r : Int32} {t1 : sM} (h1 : f_K_type g a0 = some (.ok (r, g1))) (h2 : f_M_type t a0 = some (r, t1)) (h3 : t1.1 = 0) (hI : inv g1 t1) : ∃ k r g1 o1 t1, f_L_type (g, o) a0 = some (k, (g1, o1)) ∧ f_M_type t a0 = some (r, t1) ∧ t1.1 = k ∧ (k = 0 → o1 (Int32.toNatClampNeg 0) = Int32.toInt64 r) ∧ inv g1 t1 := by
  refine ⟨0, r, g1, vp_updL o (Int32.toNatClampNeg 0) (Int32.toInt64 r), t1, ?_, h2, h3, fun _ => upd_same _ _ _, hI⟩
  unfold f_L_type
  simp only [h1, ob]
