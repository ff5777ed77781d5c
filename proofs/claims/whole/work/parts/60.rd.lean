/-! read -/
theorem rB_fn {gb : Nat → Int32} (h : rB gb) : ∃ β : Nat → Nat, ∀ i, β i < 256 ∧ gb i = nI (β i) := ⟨fun i => Classical.choose (h i), fun i => Classical.choose_spec (h i)⟩
def bm (β : Nat → Nat) (c i : Nat) : Nat := if c ≤ i then 0 else β i
theorem bm_b {β : Nat → Nat} (hβ : ∀ i, β i < 256) (c i : Nat) : bm β c i < 256 := by
  unfold bm
  split
  · omega
  · exact hβ i
theorem bm_in (β : Nat → Nat) {c i : Nat} (h : i < c) : bm β c i = β i := if_neg (by omega)
theorem s_sizeAt {g : sK} {c : Nat} {β : Nat → Nat} (hc : c ≤ 20) (hcK : g.2.2.2.2.2.2.2.2.2 = nI c) (hβ : ∀ i, β i < 256 ∧ g.2.2.2.2.2.2.2.2.1 i = nI (β i)) {a : Nat} (ha : a < 1000) : f_T_sizeAt g (nI a) = some (nI (2 + bm β c (a + 1)), g) := by
  unfold f_T_sizeAt bm
  rw [nI_1, hcK]
  by_cases h : c ≤ a + 1
  · rw [if_pos (nI_le h (by omega)), if_pos h, ob]
    rfl
  · rw [if_neg (nI_ge (by omega) (by omega)), if_neg (nI_in (show a + 1 < 20 by omega) (by decide)), if_neg h, nI_clamp (by omega), (hβ (a + 1)).2, ob, show (2 : Int32) = nI 2 from rfl, nI_add]
theorem tn_tot {g : sK} {c : Nat} (hc : c ≤ 20) (hcK : g.2.2.2.2.2.2.2.2.2 = nI c) : ∀ (m f i : Nat) (v u : Int32), c ≤ i + m → m < f → i < 1000 → ∃ x y, f_T_numberAt_15 v f g (nI i) u = some (g, x, y) := by
  intro m
  induction m with
  | zero =>
    intro f i v u h hf hi
    obtain ⟨f, rfl⟩ : ∃ f', f = f' + 1 := ⟨f - 1, by omega⟩
    refine ⟨nI i, u, ?_⟩
    rw [f_T_numberAt_15, hcK]
    by_cases h1 : v ≤ nI i
    · rw [if_pos h1]
    · rw [if_neg h1, if_pos (nI_le (by omega) (by omega))]
  | succ m ih =>
    intro f i v u h hf hi
    obtain ⟨f, rfl⟩ : ∃ f', f = f' + 1 := ⟨f - 1, by omega⟩
    rw [f_T_numberAt_15, hcK]
    by_cases h1 : v ≤ nI i
    · exact ⟨nI i, u, by rw [if_pos h1]⟩
    rw [if_neg h1]
    by_cases h2 : c ≤ i
    · exact ⟨nI i, u, by rw [if_pos (nI_le h2 (by omega))]⟩
    rw [if_neg (nI_ge (by omega) (by omega)), if_neg (nI_in (show i < 20 by omega) (by decide)), nI_clamp (by omega)]
    simp only [ob]
    rw [nI_1]
    exact ih f (i + 1) v _ (by omega) (by omega) (by omega)
theorem dv_1 (r m : Nat) : r / 2 ^ (8 * (m + 1)) = r / 2 ^ (8 * m) / 256 := by
  rw [Nat.div_div_eq_div_mul, show 8 * (m + 1) = 8 * m + 8 by omega, Nat.pow_add]
theorem dv_2 {r m b : Nat} (hb : b = r / 2 ^ (8 * m) % 256) : r / 2 ^ (8 * (m + 1)) * 256 + b = r / 2 ^ (8 * m) := by
  rw [dv_1, hb]
  omega
theorem dv_3 {r : Nat} (hr : r < 2147483648) (m : Nat) : r / 2 ^ (8 * (m + 1)) < 16777216 := by
  rw [dv_1]
  have := Nat.div_le_self r (2 ^ (8 * m))
  omega
theorem tn_val {g : sK} {c : Nat} {β : Nat → Nat} (hc : c ≤ 20) (hcK : g.2.2.2.2.2.2.2.2.2 = nI c) (hβ : ∀ i, β i < 256 ∧ g.2.2.2.2.2.2.2.2.1 i = nI (β i)) {r : Nat} (hr : r < 2147483648) : ∀ (m f i : Nat), (∀ j, j < m → β (i + j) = r / 2 ^ (8 * (m - 1 - j)) % 256) → i + m ≤ c → m < f → ∃ x, f_T_numberAt_15 (nI (i + m)) f g (nI i) (nI (r / 2 ^ (8 * m))) = some (g, x, nI r) := by
  intro m
  induction m with
  | zero =>
    intro f i h h1 hf
    obtain ⟨f, rfl⟩ : ∃ f', f = f' + 1 := ⟨f - 1, by omega⟩
    refine ⟨nI i, ?_⟩
    rw [f_T_numberAt_15, if_pos (nI_le (by omega) (by omega)), Nat.mul_zero, Nat.pow_zero, Nat.div_one]
  | succ m ih =>
    intro f i h h1 hf
    obtain ⟨f, rfl⟩ : ∃ f', f = f' + 1 := ⟨f - 1, by omega⟩
    have hb : β i = r / 2 ^ (8 * m) % 256 := by
      have := h 0 (by omega)
      rwa [Nat.add_zero, show m + 1 - 1 - 0 = m by omega] at this
    obtain ⟨x, hx⟩ := ih f (i + 1) (fun j hj => by
      have := h (j + 1) (by omega)
      rwa [show i + (j + 1) = i + 1 + j by omega, show m + 1 - 1 - (j + 1) = m - 1 - j by omega] at this) (by omega) (by omega)
    refine ⟨x, ?_⟩
    rw [f_T_numberAt_15, hcK, if_neg (nI_ge (by omega) (by omega)), if_neg (nI_ge (by omega) (by omega)), if_neg (nI_in (show i < 20 by omega) (by decide)), nI_clamp (by omega), (hβ i).2]
    simp only [ob]
    rw [by_or (dv_3 hr m) (hβ i).1, dv_2 hb, nI_1, show i + (m + 1) = i + 1 + m by omega]
    exact hx
theorem rd_Kt {g : sK} {c : Nat} {β : Nat → Nat} (hc : c ≤ 20) (hcK : g.2.2.2.2.2.2.2.2.2 = nI c) (hβ : ∀ i, β i < 256 ∧ g.2.2.2.2.2.2.2.2.1 i = nI (β i)) {a : Nat} (ha : a < 900) : ∃ x, f_T_numberAt g (nI a) = some (x, g) := by
  obtain ⟨y, x, h⟩ := tn_tot hc hcK 20 64 (a + 2) (nI a + nI (2 + bm β c (a + 1))) 0 (by omega) (by omega) (by omega)
  refine ⟨x, ?_⟩
  unfold f_T_numberAt
  rw [s_sizeAt hc hcK hβ (by omega)]
  simp only [ob]
  rw [show (2 : Int32) = nI 2 from rfl, nI_add a 2, h]
  simp only [ob]
theorem rd_K {g : sK} {c : Nat} {β : Nat → Nat} (hc : c ≤ 20) (hcK : g.2.2.2.2.2.2.2.2.2 = nI c) (hβ : ∀ i, β i < 256 ∧ g.2.2.2.2.2.2.2.2.1 i = nI (β i)) {a r : Nat} (hr : r < 2147483648) (hl : β (a + 1) = bo r) (h : ∀ j, j < bo r → β (a + 2 + j) = r / 2 ^ (8 * (bo r - 1 - j)) % 256) (ha : a + 2 + bo r ≤ c) : f_T_numberAt g (nI a) = some (nI r, g) := by
  obtain ⟨x, hx⟩ := tn_val hc hcK hβ hr (bo r) 64 (a + 2) h (by omega) (by omega)
  rw [bo_p hr] at hx
  unfold f_T_numberAt
  rw [s_sizeAt hc hcK hβ (by omega), bm_in β (by omega), hl]
  simp only [ob]
  rw [show (2 : Int32) = nI 2 from rfl, nI_add a 2, nI_add, show a + (2 + bo r) = a + 2 + bo r by omega, show (0 : Int32) = nI 0 from rfl, hx]
  simp only [ob]
theorem s_mByte {t : sM} {c : Nat} {β : Nat → Nat} (hc : c ≤ 20) (hq : t.2.2.2.2.2.2.2.2.2.1 = nI c) (hβ : ∀ i, β i < 256 ∧ t.2.2.2.2.2.2.2.2.2.2.1 i = nI (β i)) {i : Nat} (hi : i < 1000) : f_M_byteAt t (nI i) = some (nI (bm β c i), t) := by
  unfold f_M_byteAt bm
  rw [hq]
  by_cases h : c ≤ i
  · rw [if_pos (nI_le h (by omega)), if_pos h, ob]
    rfl
  · rw [if_neg (nI_ge (by omega) (by omega)), if_neg (nI_in (show i < 20 by omega) (by decide)), if_neg h, nI_clamp (by omega), (hβ i).2, ob]
theorem mn_tot {t : sM} {c : Nat} {β : Nat → Nat} (hc : c ≤ 20) (hq : t.2.2.2.2.2.2.2.2.2.1 = nI c) (hβ : ∀ i, β i < 256 ∧ t.2.2.2.2.2.2.2.2.2.2.1 i = nI (β i)) {a : Nat} (ha : a < 900) : ∀ (m f s : Nat) (u : Int32), s + m = 5 → m < f → ∃ x y, f_M_numberAt_6 (nI a) f t (nI (a + s)) u = some (t, x, y) := by
  intro m
  induction m with
  | zero =>
    intro f s u hs hf
    obtain ⟨f, rfl⟩ : ∃ f', f = f' + 1 := ⟨f - 1, by omega⟩
    refine ⟨nI (a + s), u, ?_⟩
    rw [f_M_numberAt_6, s_mByte hc hq hβ (by omega)]
    simp only [ob]
    rw [nI_add, show (4 : Int32) = nI 4 from rfl, nI_add a 4]
    by_cases h1 : nI (a + bm β c a) < nI (a + s)
    · rw [if_pos h1]
    · rw [if_neg h1, if_pos (nI_lt (by omega) (by omega))]
  | succ m ih =>
    intro f s u hs hf
    obtain ⟨f, rfl⟩ : ∃ f', f = f' + 1 := ⟨f - 1, by omega⟩
    rw [f_M_numberAt_6, s_mByte hc hq hβ (by omega)]
    simp only [ob]
    rw [nI_add, show (4 : Int32) = nI 4 from rfl, nI_add a 4]
    by_cases h1 : nI (a + bm β c a) < nI (a + s)
    · exact ⟨nI (a + s), u, by rw [if_pos h1]⟩
    · rw [if_neg h1, if_neg (nI_nlt (by omega) (by omega)), s_mByte hc hq hβ (by omega)]
      simp only [ob]
      rw [nI_1]
      exact ih f (s + 1) _ (by omega) (by omega)
theorem mn_val {t : sM} {c : Nat} {β : Nat → Nat} (hc : c ≤ 20) (hq : t.2.2.2.2.2.2.2.2.2.1 = nI c) (hβ : ∀ i, β i < 256 ∧ t.2.2.2.2.2.2.2.2.2.2.1 i = nI (β i)) {a r n : Nat} (ha : a < 900) (hr : r < 2147483648) (hl : bm β c a = n) (hn : n ≤ 4) : ∀ (m f s : Nat), s + m = n + 1 → m < f → (∀ j, j < m → bm β c (a + s + j) = r / 2 ^ (8 * (m - 1 - j)) % 256) → ∃ x, f_M_numberAt_6 (nI a) f t (nI (a + s)) (nI (r / 2 ^ (8 * m))) = some (t, x, nI r) := by
  intro m
  induction m with
  | zero =>
    intro f s hs hf h
    obtain ⟨f, rfl⟩ : ∃ f', f = f' + 1 := ⟨f - 1, by omega⟩
    refine ⟨nI (a + s), ?_⟩
    rw [f_M_numberAt_6, s_mByte hc hq hβ (by omega), hl]
    simp only [ob]
    rw [nI_add, if_pos (nI_lt (by omega) (by omega)), Nat.mul_zero, Nat.pow_zero, Nat.div_one]
  | succ m ih =>
    intro f s hs hf h
    obtain ⟨f, rfl⟩ : ∃ f', f = f' + 1 := ⟨f - 1, by omega⟩
    have hb : bm β c (a + s) = r / 2 ^ (8 * m) % 256 := by
      have := h 0 (by omega)
      rwa [Nat.add_zero, show m + 1 - 1 - 0 = m by omega] at this
    obtain ⟨x, hx⟩ := ih f (s + 1) (by omega) (by omega) (fun j hj => by
      have := h (j + 1) (by omega)
      rwa [show a + s + (j + 1) = a + (s + 1) + j by omega, show m + 1 - 1 - (j + 1) = m - 1 - j by omega] at this)
    refine ⟨x, ?_⟩
    rw [f_M_numberAt_6, s_mByte hc hq hβ (by omega), hl]
    simp only [ob]
    rw [nI_add a n, show (4 : Int32) = nI 4 from rfl, nI_add a 4, if_neg (nI_nlt (by omega) (by omega)), if_neg (nI_nlt (by omega) (by omega)), s_mByte hc hq hβ (by omega)]
    simp only [ob]
    rw [by_or (dv_3 hr m) (bm_b (fun i => (hβ i).1) c _), dv_2 hb, nI_1]
    exact hx
theorem rd_Mt {t : sM} {c : Nat} {β : Nat → Nat} (hc : c ≤ 20) (hq : t.2.2.2.2.2.2.2.2.2.1 = nI c) (hβ : ∀ i, β i < 256 ∧ t.2.2.2.2.2.2.2.2.2.2.1 i = nI (β i)) {a : Nat} (ha : a < 900) : ∃ x, f_M_numberAt t (nI a) = some (x, t) := by
  obtain ⟨y, x, h⟩ := mn_tot hc hq hβ ha 4 64 1 0 (by omega) (by omega)
  refine ⟨x, ?_⟩
  unfold f_M_numberAt
  simp only [ob]
  rw [nI_1, h]
  simp only [ob]
theorem rd_M {t : sM} {c : Nat} {β : Nat → Nat} (hc : c ≤ 20) (hq : t.2.2.2.2.2.2.2.2.2.1 = nI c) (hβ : ∀ i, β i < 256 ∧ t.2.2.2.2.2.2.2.2.2.2.1 i = nI (β i)) {a r : Nat} (hr : r < 2147483648) (hl : β a = bo r) (h : ∀ j, j < bo r → β (a + 1 + j) = r / 2 ^ (8 * (bo r - 1 - j)) % 256) (ha : a + 1 + bo r ≤ c) : f_M_numberAt t (nI a) = some (nI r, t) := by
  have b := bo_b r
  obtain ⟨x, hx⟩ := mn_val hc hq hβ (a := a) (r := r) (n := bo r) (by omega) hr (by rw [bm_in β (by omega), hl]) (by omega) (bo r) 64 1 (by omega) (by omega) (fun j hj => by rw [bm_in β (by omega)]; exact h j hj)
  rw [bo_p hr] at hx
  unfold f_M_numberAt
  simp only [ob]
  rw [nI_1, show (0 : Int32) = nI 0 from rfl, hx]
  simp only [ob]
def isF (c : Nat) (β : Nat → Nat) (r s : Nat) : Prop := c = fl r s ∧ ∀ i, i < c → β i = fb r s i
theorem nb_b (r j : Nat) : nb r j < 256 := by
  have := bo_b r
  unfold nb
  split
  · omega
  · split
    · omega
    · exact Nat.mod_lt _ (by decide)
theorem fb_b (r s i : Nat) : fb r s i < 256 := by
  have := bo_b r
  have := bo_b s
  unfold fb
  split
  · omega
  · split
    · omega
    · split
      · exact nb_b _ _
      · exact nb_b _ _
theorem fo_K {g : sK} {c : Nat} {β : Nat → Nat} (hc : c ≤ 20) (hcK : g.2.2.2.2.2.2.2.2.2 = nI c) (hβ : ∀ i, β i < 256 ∧ g.2.2.2.2.2.2.2.2.1 i = nI (β i)) {r s : Nat} (hr : r < 2147483648) (hs : s < 2147483648) (hcl : c = fl r s) : ∀ (m f i : Nat), i + m = c → m < f → ((∀ j, i ≤ j → j < c → β j = fb r s j) ∧ ∃ x, f_T_areFormOf_16 (nI r) (nI s) f g (nI i) = some (.inr (g, x))) ∨ ((∃ j, j < c ∧ β j ≠ fb r s j) ∧ f_T_areFormOf_16 (nI r) (nI s) f g (nI i) = some (.inl (0, g))) := by
  intro m
  induction m with
  | zero =>
    intro f i hi hf
    obtain ⟨f, rfl⟩ : ∃ f', f = f' + 1 := ⟨f - 1, by omega⟩
    exact Or.inl ⟨fun j h1 h2 => absurd h1 (by omega), nI i, by rw [f_T_areFormOf_16, hcK, if_pos (nI_le (by omega) (by omega))]⟩
  | succ m ih =>
    intro f i hi hf
    obtain ⟨f, rfl⟩ : ∃ f', f = f' + 1 := ⟨f - 1, by omega⟩
    rw [f_T_areFormOf_16, hcK, if_neg (nI_ge (by omega) (by omega)), if_neg (nI_in (show i < 20 by omega) (by decide)), nI_clamp (by omega), (hβ i).2, s_O_byteAt hr hs (by omega)]
    simp only [ob]
    have b1 := (hβ i).1
    have b2 := fb_b r s i
    by_cases e : β i = fb r s i
    · rw [if_pos (by rw [e]), nI_1]
      rcases ih f (i + 1) (by omega) (by omega) with ⟨h1, h2⟩ | h1
      · refine Or.inl ⟨fun j h3 h4 => ?_, h2⟩
        by_cases e2 : j = i
        · rw [e2]; exact e
        · exact h1 j (by omega) h4
      · exact Or.inr h1
    · rw [if_neg (nI_ne (by omega) (by omega) e)]
      exact Or.inr ⟨⟨i, by omega, e⟩, rfl⟩
theorem s_form {g : sK} {c : Nat} {β : Nat → Nat} (hc : c ≤ 20) (hcK : g.2.2.2.2.2.2.2.2.2 = nI c) (hβ : ∀ i, β i < 256 ∧ g.2.2.2.2.2.2.2.2.1 i = nI (β i)) {r s : Nat} (hr : r < 2147483648) (hs : s < 2147483648) : (isF c β r s ∧ f_T_areFormOf g (nI r) (nI s) = some (1, g)) ∨ (¬ isF c β r s ∧ f_T_areFormOf g (nI r) (nI s) = some (0, g)) := by
  have bl := fl_b r s
  unfold f_T_areFormOf
  rw [s_O_length hr hs, ob, hcK]
  by_cases h : c = fl r s
  · rw [if_pos (by rw [h])]
    rcases fo_K hc hcK hβ hr hs h c 64 0 (by omega) (by omega) with ⟨h1, x, h2⟩ | ⟨⟨j, h1, h3⟩, h2⟩
    · have h2' : f_T_areFormOf_16 (nI r) (nI s) 64 g 0 = some (.inr (g, x)) := h2
      rw [h2']
      exact Or.inl ⟨⟨h, fun i hi => h1 i (by omega) hi⟩, rfl⟩
    · have h2' : f_T_areFormOf_16 (nI r) (nI s) 64 g 0 = some (.inl (0, g)) := h2
      rw [h2']
      exact Or.inr ⟨fun h9 => h3 (h9.2 j h1), rfl⟩
  · rw [if_neg (nI_ne (by omega) (by omega) h)]
    exact Or.inr ⟨fun h9 => h h9.1, rfl⟩
theorem sm_stop (f : Nat) (T : sM) (u6 : Int32) : f_M_same_36 (f + 1) T u6 0 = some (T, u6, 0) := by
  rw [f_M_same_36]
  by_cases h : T.2.2.2.2.2.2.2.2.2.2.2.1 ≤ u6
  · rw [if_pos h]
  · rw [if_neg h, if_pos rfl]
theorem fo_M {t : sM} {c : Nat} {β : Nat → Nat} (hβ : ∀ i, β i < 256 ∧ t.2.2.2.2.2.2.2.2.2.2.1 i = nI (β i)) {r s : Nat} (hcl : c = fl r s) {B : Nat → Int32} (hB : ∀ j, j < fl r s → B j = nI (fb r s j)) : ∀ (m f i : Nat), i + m = c → m + 1 < f → ((∀ j, i ≤ j → j < c → β j = fb r s j) ∧ ∃ x, f_M_same_36 f (fmM t (nI (fl r s)) B) (nI i) 1 = some (fmM t (nI (fl r s)) B, x, 1)) ∨ ((∃ j, j < c ∧ β j ≠ fb r s j) ∧ ∃ x, f_M_same_36 f (fmM t (nI (fl r s)) B) (nI i) 1 = some (fmM t (nI (fl r s)) B, x, 0)) := by
  have bl := fl_b r s
  have e1 : (fmM t (nI (fl r s)) B).2.2.2.2.2.2.2.2.2.2.2.1 = nI (fl r s) := rfl
  have e2 : (fmM t (nI (fl r s)) B).2.2.2.2.2.2.2.2.2.2.2.2 = B := rfl
  have e3 : (fmM t (nI (fl r s)) B).2.2.2.2.2.2.2.2.2.2.1 = t.2.2.2.2.2.2.2.2.2.2.1 := rfl
  intro m
  induction m with
  | zero =>
    intro f i hi hf
    obtain ⟨f, rfl⟩ : ∃ f', f = f' + 1 := ⟨f - 1, by omega⟩
    exact Or.inl ⟨fun j h1 h2 => absurd h1 (by omega), nI i, by rw [f_M_same_36, e1, if_pos (nI_le (by omega) (by omega))]⟩
  | succ m ih =>
    intro f i hi hf
    obtain ⟨f, rfl⟩ : ∃ f', f = f' + 1 := ⟨f - 1, by omega⟩
    have b1 := (hβ i).1
    have b2 := fb_b r s i
    rw [f_M_same_36, e1, if_neg (nI_ge (by omega) (by omega)), if_neg (by decide), if_neg (nI_in (show i < 16 by omega) (by decide)), if_neg (nI_in (show i < 20 by omega) (by decide)), nI_clamp (by omega), e2, e3, hB i (by omega), (hβ i).2]
    by_cases e : β i = fb r s i
    · rw [if_pos (by rw [e])]
      simp only [ob]
      rw [nI_1]
      rcases ih f (i + 1) (by omega) (by omega) with ⟨h1, h2⟩ | h1
      · refine Or.inl ⟨fun j h3 h4 => ?_, h2⟩
        by_cases e2 : j = i
        · rw [e2]; exact e
        · exact h1 j (by omega) h4
      · exact Or.inr h1
    · rw [if_neg (nI_ne (by omega) (by omega) (fun h9 => e h9.symm))]
      simp only [ob]
      obtain ⟨f, rfl⟩ : ∃ f', f = f' + 1 := ⟨f - 1, by omega⟩
      exact Or.inr ⟨⟨i, by omega, e⟩, nI i + 1, sm_stop _ _ _⟩
theorem s_same {t : sM} {c : Nat} {β : Nat → Nat} (hc : c ≤ 20) (hq : t.2.2.2.2.2.2.2.2.2.1 = nI c) (hβ : ∀ i, β i < 256 ∧ t.2.2.2.2.2.2.2.2.2.2.1 i = nI (β i)) {r s : Nat} (hr : r < 2147483648) (hs : s < 2147483648) : ∃ C B, (isF c β r s ∧ f_M_same t (nI r) (nI s) = some (1, fmM t C B)) ∨ (¬ isF c β r s ∧ f_M_same t (nI r) (nI s) = some (0, fmM t C B)) := by
  have bl := fl_b r s
  obtain ⟨B, hB1, hB2⟩ := s_layForm hr hs t
  refine ⟨nI (fl r s), B, ?_⟩
  have e1 : (fmM t (nI (fl r s)) B).2.2.2.2.2.2.2.2.2.2.2.1 = nI (fl r s) := rfl
  have e3 : (fmM t (nI (fl r s)) B).2.2.2.2.2.2.2.2.2.1 = t.2.2.2.2.2.2.2.2.2.1 := rfl
  unfold f_M_same
  rw [if_neg (nI_pos hr), if_pos (nI_pos' hs), hB1, ob, e1, e3, hq]
  by_cases h : c = fl r s
  · rw [if_pos (by rw [h]), ob]
    rcases fo_M hβ h hB2 c 64 0 (by omega) (by omega) with ⟨h1, x, h2⟩ | ⟨⟨j, h1, h3⟩, x, h2⟩
    · have h2' : f_M_same_36 64 (fmM t (nI (fl r s)) B) 0 1 = some (fmM t (nI (fl r s)) B, x, 1) := h2
      rw [h2']
      simp only [ob]
      exact Or.inl ⟨⟨h, fun i hi => h1 i (by omega) hi⟩, if_pos (by decide)⟩
    · have h2' : f_M_same_36 64 (fmM t (nI (fl r s)) B) 0 1 = some (fmM t (nI (fl r s)) B, x, 0) := h2
      rw [h2']
      simp only [ob]
      exact Or.inr ⟨fun h9 => h3 (h9.2 j h1), if_pos (by decide)⟩
  · rw [if_neg (nI_ne (by omega) (by omega) (fun h9 => h h9.symm)), ob, sm_stop]
    simp only [ob]
    exact Or.inr ⟨fun h9 => h h9.1, if_pos (by decide)⟩
theorem isF_1 {c : Nat} {β : Nat → Nat} {r s : Nat} (h : isF c β r s) : β 3 = bo r ∧ (∀ j, j < bo r → β (4 + j) = r / 2 ^ (8 * (bo r - 1 - j)) % 256) ∧ β (5 + bo r) = bo s ∧ (∀ j, j < bo s → β (6 + bo r + j) = s / 2 ^ (8 * (bo s - 1 - j)) % 256) ∧ c = 6 + bo r + bo s := by
  obtain ⟨h1, h2⟩ := h
  have b := bo_b r
  have b' := bo_b s
  have h1' : c = 6 + bo r + bo s := h1
  refine ⟨?_, ?_, ?_, ?_, h1'⟩
  · rw [h2 3 (by omega)]
    unfold fb
    rw [if_neg (by omega), if_neg (by omega), if_pos (by omega)]
    rfl
  · intro j hj
    rw [h2 (4 + j) (by omega)]
    unfold fb nb
    rw [if_neg (by omega), if_neg (by omega), if_pos (by omega), if_neg (by omega), if_neg (by omega), show bo r + 1 - (4 + j - 2) = bo r - 1 - j by omega]
  · rw [h2 (5 + bo r) (by omega)]
    unfold fb nb
    rw [if_neg (by omega), if_neg (by omega), if_neg (by omega), if_neg (by omega), if_pos (by omega)]
  · intro j hj
    rw [h2 (6 + bo r + j) (by omega)]
    unfold fb nb
    rw [if_neg (by omega), if_neg (by omega), if_neg (by omega), if_neg (by omega), if_neg (by omega), show bo s + 1 - (6 + bo r + j - (4 + bo r)) = bo s - 1 - j by omega]
def rdK (g : sK) : sK := (g.1, g.2.1, g.2.2.1, g.2.2.2.1, g.2.2.2.2.1, g.2.2.2.2.2.1, g.2.2.2.2.2.2.1, g.2.2.2.2.2.2.2.1, g.2.2.2.2.2.2.2.2.1, 0)
def rdM (t : sM) : sM := (t.1, t.2.1, t.2.2.1, t.2.2.2.1, t.2.2.2.2.1, t.2.2.2.2.2.1, t.2.2.2.2.2.2.1, t.2.2.2.2.2.2.2.1, t.2.2.2.2.2.2.2.2.1, 0, t.2.2.2.2.2.2.2.2.2.2.1, t.2.2.2.2.2.2.2.2.2.2.2.1, t.2.2.2.2.2.2.2.2.2.2.2.2)
theorem inv_rd {g : sK} {t : sM} (h : inv g t) : inv (rdK g) (rdM t) := by
  obtain ⟨i1, i2, i3, -, i5, q1, q2, q3, q4, q5, q6, -, q8⟩ := h
  exact ⟨i1, i2, i3, ⟨0, by omega, rfl⟩, i5, q1, q2, q3, q4, q5, q6, rfl, q8⟩
theorem g_read : ag_read inv := by
  intro g t0 hI0
  have hI : inv g (thM t0 0) := inv_th hI0 0
  have eM0 : f_M_read t0 = Option.bind (f_M_numberAt (thM t0 0) 3) (fun t3 => match t3 with | (r2, g1) => (Option.bind (f_M_byteAt g1 3) (fun t6 => match t6 with | (r5, g4) => (Option.bind (f_M_numberAt g4 (5 + r5)) (fun t9 => match t9 with | (r8, g7) => (Option.bind (f_M_same g7 r2 r8) (fun t12 => match t12 with | (r11, g10) => (Option.bind (if r11 = 0 then (some ((-1)) : Option (Int64)) else (some (((Int32.toInt64 r2) * 4294967296) + (Int32.toInt64 r8)))) (fun j13 => some (j13, rdM g10))))))))) ) := rfl
  rw [eM0]
  generalize thM t0 0 = t at hI
  obtain ⟨i1, i2, i3, ⟨c, hc, hcK⟩, i5, q1, q2, q3, q4, q5, q6, q7, q8⟩ := id hI
  have hq := q7.trans hcK
  obtain ⟨β, hβ⟩ := rB_fn i5
  have hβt : ∀ i, β i < 256 ∧ t.2.2.2.2.2.2.2.2.2.2.1 i = nI (β i) := fun i => by rw [q8]; exact hβ i
  have hb3 := bm_b (fun i => (hβ i).1) c 3
  have sz : f_T_sizeAt g 2 = some (nI (2 + bm β c 3), g) := s_sizeAt hc hcK hβ (a := 2) (by omega)
  have bt3 : f_M_byteAt t 3 = some (nI (bm β c 3), t) := s_mByte hc hq hβt (i := 3) (by omega)
  have eA : (2 : Int32) + nI (2 + bm β c 3) = nI (4 + bm β c 3) := by
    rw [show (2 : Int32) = nI 2 from rfl, nI_add, show 2 + (2 + bm β c 3) = 4 + bm β c 3 by omega]
  have eB : (5 : Int32) + nI (bm β c 3) = nI (5 + bm β c 3) := by
    rw [show (5 : Int32) = nI 5 from rfl, nI_add]
  obtain ⟨rK, hrK⟩ := rd_Kt hc hcK hβ (a := 2) (by omega)
  obtain ⟨sK', hsK⟩ := rd_Kt hc hcK hβ (a := 4 + bm β c 3) (by omega)
  obtain ⟨rM, hrM⟩ := rd_Mt hc hq hβt (a := 3) (by omega)
  obtain ⟨sM', hsM⟩ := rd_Mt hc hq hβt (a := 5 + bm β c 3) (by omega)
  have hrK' : f_T_numberAt g 2 = some (rK, g) := hrK
  have hrM' : f_M_numberAt t 3 = some (rM, t) := hrM
  have eK : ∀ {v : Int64}, (if rK < 0 then (some ((-1), g) : Option (Int64 × sK)) else (if sK' < 0 then (some ((-1), g)) else (Option.bind (f_T_areFormOf g rK sK') (fun t18 => match t18 with | (r17, g16) => (if r17 = 0 then (some ((-1), g16)) else (some (((Int32.toInt64 rK) * 4294967296) + (Int32.toInt64 sK'), g16))))))) = some (v, g) → f_K_read g = some (v, rdK g) := fun h => by
    unfold f_K_read f_T_numbers
    rw [sz]
    simp only [ob]
    rw [hrK', eA]
    simp only [ob]
    rw [hsK]
    simp only [ob]
    rw [h]
    simp only [ob]
    rfl
  have eM : ∀ {w : Int32} {T : sM} {v : Int64}, f_M_same t rM sM' = some (w, T) → (if w = 0 then (some ((-1)) : Option (Int64)) else (some (((Int32.toInt64 rM) * 4294967296) + (Int32.toInt64 sM')))) = some v → Option.bind (f_M_numberAt t 3) (fun t3 => match t3 with | (r2, g1) => (Option.bind (f_M_byteAt g1 3) (fun t6 => match t6 with | (r5, g4) => (Option.bind (f_M_numberAt g4 (5 + r5)) (fun t9 => match t9 with | (r8, g7) => (Option.bind (f_M_same g7 r2 r8) (fun t12 => match t12 with | (r11, g10) => (Option.bind (if r11 = 0 then (some ((-1)) : Option (Int64)) else (some (((Int32.toInt64 r2) * 4294967296) + (Int32.toInt64 r8)))) (fun j13 => some (j13, rdM g10))))))))) ) = some (v, rdM T) := fun h1 h2 => by
    rw [hrM']
    simp only [ob]
    rw [bt3]
    simp only [ob]
    rw [eB, hsM]
    simp only [ob]
    rw [h1]
    simp only [ob]
    rw [h2]
    simp only [ob]
  by_cases hF : ∃ r s, r < 2147483648 ∧ s < 2147483648 ∧ isF c β r s
  · obtain ⟨r, s, hr, hs, hF⟩ := hF
    have b := bo_b r
    have b' := bo_b s
    obtain ⟨f1, f2, f3, f4, f5⟩ := isF_1 hF
    have e3 : bm β c 3 = bo r := by rw [bm_in β (by omega), f1]
    rw [e3] at hsK hsM
    have a1 := rd_K hc hcK hβ (a := 2) hr f1 f2 (by omega)
    have a2 := rd_K hc hcK hβ (a := 4 + bo r) hs (by rw [← f3]; congr 1; omega) (fun j hj => by rw [← f4 j hj]; congr 1; omega) (by omega)
    have a3 := rd_M hc hq hβt (a := 3) hr f1 f2 (by omega)
    have a4 := rd_M hc hq hβt (a := 5 + bo r) hs f3 (fun j hj => by rw [← f4 j hj]; congr 1; omega) (by omega)
    have x1 : rK = nI r := by rw [a1] at hrK; injection hrK with h; injection h with h1 h2; exact h1.symm
    have x2 : sK' = nI s := by rw [a2] at hsK; injection hsK with h; injection h with h1 h2; exact h1.symm
    have x3 : rM = nI r := by rw [a3] at hrM; injection hrM with h; injection h with h1 h2; exact h1.symm
    have x4 : sM' = nI s := by rw [a4] at hsM; injection hsM with h; injection h with h1 h2; exact h1.symm
    have g1 : f_T_areFormOf g (nI r) (nI s) = some (1, g) := by
      rcases s_form hc hcK hβ hr hs with ⟨-, h⟩ | ⟨h, -⟩
      · exact h
      · exact absurd hF h
    obtain ⟨C, B, g2⟩ : ∃ C B, f_M_same t (nI r) (nI s) = some (1, fmM t C B) := by
      obtain ⟨C, B, ⟨-, h⟩ | ⟨h, -⟩⟩ := s_same hc hq hβt hr hs
      · exact ⟨C, B, h⟩
      · exact absurd hF h
    refine ⟨((Int32.toInt64 (nI r)) * 4294967296) + (Int32.toInt64 (nI s)), rdK g, rdM (fmM t C B), eK ?_, eM (w := 1) (by rw [x3, x4]; exact g2) ?_, inv_rd (inv_fm hI C B)⟩
    · rw [x1, x2, if_neg (nI_pos hr), if_neg (nI_pos hs), g1]
      simp only [ob]
      rw [if_neg (by decide)]
    · rw [if_neg (by decide), x3, x4]
  · have k1 : (if rK < 0 then (some ((-1), g) : Option (Int64 × sK)) else (if sK' < 0 then (some ((-1), g)) else (Option.bind (f_T_areFormOf g rK sK') (fun t18 => match t18 with | (r17, g16) => (if r17 = 0 then (some ((-1), g16)) else (some (((Int32.toInt64 rK) * 4294967296) + (Int32.toInt64 sK'), g16))))))) = some (-1, g) := by
      by_cases c1 : rK < 0
      · rw [if_pos c1]
      rw [if_neg c1]
      by_cases c2 : sK' < 0
      · rw [if_pos c2]
      rw [if_neg c2]
      obtain ⟨r, hr, rfl⟩ := nI_of c1
      obtain ⟨s, hs, rfl⟩ := nI_of c2
      rcases s_form hc hcK hβ hr hs with ⟨h, -⟩ | ⟨-, h⟩
      · exact absurd ⟨r, s, hr, hs, h⟩ hF
      · rw [h]
        simp only [ob]
        rw [if_pos (by decide)]
    have k2 : ∃ T, inv g T ∧ f_M_same t rM sM' = some (0, T) := by
      by_cases c1 : rM < 0
      · exact ⟨t, hI, by unfold f_M_same; rw [if_pos c1]⟩
      by_cases c2 : sM' < 0
      · have c3 : ¬ 0 ≤ sM' := by
          rw [Int32.le_iff_toInt_le]
          rw [Int32.lt_iff_toInt_lt] at c2
          omega
        exact ⟨t, hI, by unfold f_M_same; rw [if_neg c1, if_neg c3]⟩
      obtain ⟨r, hr, rfl⟩ := nI_of c1
      obtain ⟨s, hs, rfl⟩ := nI_of c2
      obtain ⟨C, B, ⟨h, -⟩ | ⟨-, h⟩⟩ := s_same hc hq hβt hr hs
      · exact absurd ⟨r, s, hr, hs, h⟩ hF
      · exact ⟨fmM t C B, inv_fm hI C B, h⟩
    obtain ⟨T, hT, k3⟩ := k2
    exact ⟨-1, rdK g, rdM T, eK k1, eM (w := 0) k3 (by rw [if_pos rfl]), inv_rd hT⟩
