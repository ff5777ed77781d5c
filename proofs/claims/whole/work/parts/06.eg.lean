/-! The addition itself, and its laws. -/
def ec_ln {K : Type} [Lean.Grind.CommRing K] (l x1 y1 x2 : K) : K × K := (l * l - x1 - x2, l * (x1 - (l * l - x1 - x2)) - y1)
def ec_ad {K : Type} [Lean.Grind.CommRing K] [DecidableEq K] (iv : K → K) : Option (K × K) → Option (K × K) → Option (K × K)
  | none, Q => Q
  | some p, none => some p
  | some p, some q => if p.1 = q.1 then (if p.2 = q.2 then some (ec_ln (3 * (p.1 * p.1) * iv (p.2 + p.2)) p.1 p.2 p.1) else none) else some (ec_ln ((q.2 - p.2) * iv (q.1 - p.1)) p.1 p.2 q.1)
theorem ec_ad_some {K : Type} [Lean.Grind.CommRing K] [DecidableEq K] (iv : K → K) (x1 y1 x2 y2 : K) : ec_ad iv (some (x1, y1)) (some (x2, y2)) = if x1 = x2 then (if y1 = y2 then some (ec_ln (3 * (x1 * x1) * iv (y1 + y1)) x1 y1 x1) else none) else some (ec_ln ((y2 - y1) * iv (x2 - x1)) x1 y1 x2) := rfl
def ec_on {K : Type} [Lean.Grind.CommRing K] (P : Option (K × K)) : Prop := ∀ p, P = some p → p.2 * p.2 = p.1 * p.1 * p.1 + 7
def ec_R {K : Type} [Lean.Grind.CommRing K] (P : Option (K × K)) (u : ec_T K) : Prop := match P with
  | none => u.1 = 0 ∧ u.2.1 ≠ 0 ∧ u.2.2 = 0
  | some p => u.2.2 ≠ 0 ∧ u.1 = p.1 * u.2.2 ∧ u.2.1 = p.2 * u.2.2
/-- what is asked of the field -/
def ec_F (K : Type) [Lean.Grind.CommRing K] (iv : K → K) : Prop := (∀ a b : K, a * b = 0 → a = 0 ∨ b = 0) ∧ (∀ a : K, a ≠ 0 → iv a * a = 1) ∧ (∀ x : K, x * x * x + 7 ≠ 0) ∧ (2 : K) ≠ 0 ∧ (1 : K) ≠ 0
theorem ec_y0 {K : Type} [Lean.Grind.CommRing K] {iv : K → K} (hF : ec_F K iv) {x y : K} (h : y * y = x * x * x + 7) : y ≠ 0 := by
  intro h0
  refine hF.2.2.1 x ?_
  rw [← h, h0]
  grind
theorem ec_yy {K : Type} [Lean.Grind.CommRing K] {iv : K → K} (hF : ec_F K iv) {x y : K} (h : y * y = x * x * x + 7) : y + y ≠ 0 := by
  intro h0
  have h1 : 2 * y = 0 := by grind
  rcases hF.1 _ _ h1 with h2 | h2
  · exact hF.2.2.2.1 h2
  · exact ec_y0 hF h h2
theorem ec_line {K : Type} [Lean.Grind.CommRing K] {iv : K → K} (hF : ec_F K iv) {d n l x1 y1 x2 : K} (hd : d ≠ 0) (hl : l = n * iv d) :
    d * d * (ec_ln l x1 y1 x2).1 = ec_nx d n x1 x2 ∧ d * d * d * (ec_ln l x1 y1 x2).2 = ec_ny d n x1 x2 y1 := by
  have h1 : l * d = n := by
    have h2 := hF.2.1 d hd
    rw [hl]
    grind
  have e1 : d * d * (ec_ln l x1 y1 x2).1 = ec_nx d n x1 x2 := by
    have h3 : d * d * (l * l - x1 - x2) = (l * d) * (l * d) - (x1 + x2) * (d * d) := by grind
    show d * d * (l * l - x1 - x2) = n * n - (x1 + x2) * (d * d)
    rw [h3, h1]
  refine ⟨e1, ?_⟩
  have h4 : d * d * d * (l * (x1 - (l * l - x1 - x2)) - y1) = (l * d) * (x1 * (d * d) - d * d * (l * l - x1 - x2)) - y1 * (d * d * d) := by grind
  show d * d * d * (l * (x1 - (l * l - x1 - x2)) - y1) = n * (x1 * (d * d) - ec_nx d n x1 x2) - y1 * (d * d * d)
  rw [h4, h1, ← e1]
  rfl
/-- from numerators to the curve -/
theorem ec_close {K : Type} [Lean.Grind.CommRing K] {iv : K → K} (hF : ec_F K iv) {d a b x y : K} (hd : d ≠ 0) (ex : d * d * x = a) (ey : d * d * d * y = b) (h : b * b = a * a * a + 7 * (d * d * d * (d * d * d))) : y * y = x * x * x + 7 := by
  have h3 : d * d * d * (d * d * d) ≠ 0 := ec_mulne hF.1 (ec_mulne hF.1 (ec_mulne hF.1 hd hd) hd) (ec_mulne hF.1 (ec_mulne hF.1 hd hd) hd)
  refine ec_canc hF.1 h3 ?_
  have e1 : d * d * d * (d * d * d) * (y * y) = (d * d * d * y) * (d * d * d * y) := by grind
  have e2 : d * d * d * (d * d * d) * (x * x * x + 7) = (d * d * x) * (d * d * x) * (d * d * x) + 7 * (d * d * d * (d * d * d)) := by grind
  rw [e1, e2, ex, ey, h]
theorem ec_neq {K : Type} [Lean.Grind.CommRing K] {a b : K} (h : a ≠ b) : b - a ≠ 0 := fun h0 => h (by grind)
theorem ec_chord {K : Type} [Lean.Grind.CommRing K] {iv : K → K} (hF : ec_F K iv) {x1 y1 x2 y2 : K} (h1 : y1 * y1 = x1 * x1 * x1 + 7) (h2 : y2 * y2 = x2 * x2 * x2 + 7) (hx : x1 ≠ x2) :
    (ec_ln ((y2 - y1) * iv (x2 - x1)) x1 y1 x2).2 * (ec_ln ((y2 - y1) * iv (x2 - x1)) x1 y1 x2).2 = (ec_ln ((y2 - y1) * iv (x2 - x1)) x1 y1 x2).1 * (ec_ln ((y2 - y1) * iv (x2 - x1)) x1 y1 x2).1 * (ec_ln ((y2 - y1) * iv (x2 - x1)) x1 y1 x2).1 + 7 := by
  obtain ⟨ex, ey⟩ := ec_line hF (d := x2 - x1) (n := y2 - y1) (x1 := x1) (y1 := y1) (x2 := x2) (ec_neq hx) rfl
  exact ec_close hF (ec_neq hx) ex ey (ec_i4 h1 h2)
theorem ec_tang {K : Type} [Lean.Grind.CommRing K] {iv : K → K} (hF : ec_F K iv) {x1 y1 : K} (h1 : y1 * y1 = x1 * x1 * x1 + 7) :
    (ec_ln (3 * (x1 * x1) * iv (y1 + y1)) x1 y1 x1).2 * (ec_ln (3 * (x1 * x1) * iv (y1 + y1)) x1 y1 x1).2 = (ec_ln (3 * (x1 * x1) * iv (y1 + y1)) x1 y1 x1).1 * (ec_ln (3 * (x1 * x1) * iv (y1 + y1)) x1 y1 x1).1 * (ec_ln (3 * (x1 * x1) * iv (y1 + y1)) x1 y1 x1).1 + 7 := by
  obtain ⟨ex, ey⟩ := ec_line hF (d := y1 + y1) (n := 3 * (x1 * x1)) (x1 := x1) (y1 := y1) (x2 := x1) (ec_yy hF h1) rfl
  exact ec_close hF (ec_yy hF h1) ex ey (ec_i8 h1)
theorem ec_on_ad {K : Type} [Lean.Grind.CommRing K] [DecidableEq K] {iv : K → K} (hF : ec_F K iv) {P Q : Option (K × K)} (hP : ec_on P) (hQ : ec_on Q) : ec_on (ec_ad iv P Q) := by
  cases P with
  | none => exact hQ
  | some p =>
    cases Q with
    | none => exact hP
    | some q =>
      obtain ⟨x1, y1⟩ := p
      obtain ⟨x2, y2⟩ := q
      have h1 := hP (x1, y1) rfl
      have h2 := hQ (x2, y2) rfl
      rw [ec_ad_some]
      by_cases hx : x1 = x2
      · rw [if_pos hx]
        by_cases hy : y1 = y2
        · rw [if_pos hy]
          intro r hr
          cases hr
          exact ec_tang hF h1
        · rw [if_neg hy]
          intro r hr
          cases hr
      · rw [if_neg hx]
        intro r hr
        cases hr
        exact ec_chord hF h1 h2 hx
theorem ec_Zne {K : Type} [Lean.Grind.CommRing K] {iv : K → K} (hF : ec_F K iv) {x1 y1 x2 y2 : K} (h1 : y1 * y1 = x1 * x1 * x1 + 7) (h2 : y2 * y2 = x2 * x2 * x2 + 7) (hx : x1 ≠ x2) : ec_Z (x1, y1, 1) (x2, y2, 1) ≠ 0 := by
  rw [← ec_i3 h1 h2]
  have h3 : (-y2) * (-y2) = x2 * x2 * x2 + 7 := by rw [← h2]; grind
  obtain ⟨-, ey⟩ := ec_line hF (d := x2 - x1) (n := -y2 - y1) (x1 := x1) (y1 := y1) (x2 := x2) (ec_neq hx) rfl
  rw [← ey]
  exact ec_mulne hF.1 (ec_mulne hF.1 (ec_mulne hF.1 (ec_neq hx) (ec_neq hx)) (ec_neq hx)) (ec_y0 hF (ec_chord hF h1 h3 hx))
theorem ec_rep1 {K : Type} [Lean.Grind.CommRing K] [DecidableEq K] {iv : K → K} (hF : ec_F K iv) {x1 y1 x2 y2 : K} (h1 : y1 * y1 = x1 * x1 * x1 + 7) (h2 : y2 * y2 = x2 * x2 * x2 + 7) : ec_R (ec_ad iv (some (x1, y1)) (some (x2, y2))) (ec_C (x1, y1, 1) (x2, y2, 1)) := by
  rw [ec_ad_some]
  by_cases hx : x1 = x2
  · rw [if_pos hx]
    subst hx
    by_cases hy : y1 = y2
    · rw [if_pos hy]
      subst hy
      have hd := ec_yy hF h1
      obtain ⟨ex, ey⟩ := ec_line hF (d := y1 + y1) (n := 3 * (x1 * x1)) (x1 := x1) (y1 := y1) (x2 := x1) hd rfl
      refine ⟨?_, ?_, ?_⟩
      · show ec_Z (x1, y1, 1) (x1, y1, 1) ≠ 0
        rw [ec_i7 h1]
        exact ec_mulne hF.1 (ec_mulne hF.1 hd hd) hd
      · refine ec_canc hF.1 (ec_mulne hF.1 hd hd) ?_
        show (y1 + y1) * (y1 + y1) * ec_X (x1, y1, 1) (x1, y1, 1) = (y1 + y1) * (y1 + y1) * ((ec_ln (3 * (x1 * x1) * iv (y1 + y1)) x1 y1 x1).1 * ec_Z (x1, y1, 1) (x1, y1, 1))
        rw [ec_i5 h1, ← ex]
        grind
      · refine ec_canc hF.1 (ec_mulne hF.1 (ec_mulne hF.1 hd hd) hd) ?_
        show (y1 + y1) * (y1 + y1) * (y1 + y1) * ec_Y (x1, y1, 1) (x1, y1, 1) = (y1 + y1) * (y1 + y1) * (y1 + y1) * ((ec_ln (3 * (x1 * x1) * iv (y1 + y1)) x1 y1 x1).2 * ec_Z (x1, y1, 1) (x1, y1, 1))
        rw [ec_i6 h1, ← ey]
        grind
    · rw [if_neg hy]
      have h3 : (y1 - y2) * (y1 + y2) = 0 := by grind
      have h4 : y2 = -y1 := by
        rcases hF.1 _ _ h3 with h5 | h5
        · exact absurd (ec_sub0 h5) hy
        · grind
      subst h4
      refine ⟨?_, ?_, ?_⟩
      · show ec_X (x1, y1, 1) (x1, -y1, 1) = 0
        simp only [ec_X]
        grind
      · show ec_Y (x1, y1, 1) (x1, -y1, 1) ≠ 0
        rw [ec_i9 h1]
        have hd := ec_yy hF h1
        obtain ⟨-, ey⟩ := ec_line hF (d := y1 + y1) (n := 3 * (x1 * x1)) (x1 := x1) (y1 := y1) (x2 := x1) hd rfl
        rw [← ey]
        exact ec_mulne hF.1 (ec_mulne hF.1 (ec_mulne hF.1 hd hd) hd) (ec_y0 hF (ec_tang hF h1))
      · show ec_Z (x1, y1, 1) (x1, -y1, 1) = 0
        simp only [ec_Z]
        grind
  · rw [if_neg hx]
    have hd := ec_neq hx
    obtain ⟨ex, ey⟩ := ec_line hF (d := x2 - x1) (n := y2 - y1) (x1 := x1) (y1 := y1) (x2 := x2) hd rfl
    refine ⟨ec_Zne hF h1 h2 hx, ?_, ?_⟩
    · refine ec_canc hF.1 (ec_mulne hF.1 hd hd) ?_
      show (x2 - x1) * (x2 - x1) * ec_X (x1, y1, 1) (x2, y2, 1) = (x2 - x1) * (x2 - x1) * ((ec_ln ((y2 - y1) * iv (x2 - x1)) x1 y1 x2).1 * ec_Z (x1, y1, 1) (x2, y2, 1))
      rw [ec_i1 h1 h2, ← ex]
      grind
    · refine ec_canc hF.1 (ec_mulne hF.1 (ec_mulne hF.1 hd hd) hd) ?_
      show (x2 - x1) * (x2 - x1) * (x2 - x1) * ec_Y (x1, y1, 1) (x2, y2, 1) = (x2 - x1) * (x2 - x1) * (x2 - x1) * ((ec_ln ((y2 - y1) * iv (x2 - x1)) x1 y1 x2).2 * ec_Z (x1, y1, 1) (x2, y2, 1))
      rw [ec_i2 h1 h2, ← ey]
      grind
def ec_sm {K : Type} [Lean.Grind.CommRing K] (a : K) (u : ec_T K) : ec_T K := (a * u.1, a * u.2.1, a * u.2.2)
theorem ec_R_sm {K : Type} [Lean.Grind.CommRing K] {iv : K → K} (hF : ec_F K iv) {a : K} (ha : a ≠ 0) {P : Option (K × K)} {u : ec_T K} (h : ec_R P u) : ec_R P (ec_sm a u) := by
  cases P with
  | none =>
    obtain ⟨h1, h2, h3⟩ := h
    refine ⟨?_, ec_mulne hF.1 ha h2, ?_⟩
    · show a * u.1 = 0
      rw [h1]; grind
    · show a * u.2.2 = 0
      rw [h3]; grind
  | some p =>
    obtain ⟨h1, h2, h3⟩ := h
    refine ⟨ec_mulne hF.1 ha h1, ?_, ?_⟩
    · show a * u.1 = p.1 * (a * u.2.2)
      rw [h2]; grind
    · show a * u.2.1 = p.2 * (a * u.2.2)
      rw [h3]; grind
theorem ec_sm1 {K : Type} [Lean.Grind.CommRing K] {x y z : K} {u : ec_T K} (hx : u.1 = x * u.2.2) (hy : u.2.1 = y * u.2.2) : u = ec_sm u.2.2 (x, y, 1) := by
  obtain ⟨a, b, c⟩ := u
  simp only [ec_sm] at *
  rw [hx, hy]
  refine Prod.ext ?_ (Prod.ext ?_ ?_)
  · show x * c = c * x
    grind
  · show y * c = c * y
    grind
  · show c = c * 1
    grind
theorem ec_C_sm {K : Type} [Lean.Grind.CommRing K] (a b x1 y1 x2 y2 : K) : ec_C (ec_sm a (x1, y1, 1)) (ec_sm b (x2, y2, 1)) = ec_sm (a * b * (a * b)) (ec_C (x1, y1, 1) (x2, y2, 1)) := by
  refine Prod.ext ?_ (Prod.ext ?_ ?_)
  · show ec_X (ec_sm a (x1, y1, 1)) (ec_sm b (x2, y2, 1)) = a * b * (a * b) * ec_X (x1, y1, 1) (x2, y2, 1)
    simp only [ec_X, ec_sm]
    grind
  · show ec_Y (ec_sm a (x1, y1, 1)) (ec_sm b (x2, y2, 1)) = a * b * (a * b) * ec_Y (x1, y1, 1) (x2, y2, 1)
    simp only [ec_Y, ec_sm]
    grind
  · show ec_Z (ec_sm a (x1, y1, 1)) (ec_sm b (x2, y2, 1)) = a * b * (a * b) * ec_Z (x1, y1, 1) (x2, y2, 1)
    simp only [ec_Z, ec_sm]
    grind
theorem ec_C_comm {K : Type} [Lean.Grind.CommRing K] (u v : ec_T K) : ec_C u v = ec_C v u := by
  refine Prod.ext ?_ (Prod.ext ?_ ?_)
  · show ec_X u v = ec_X v u
    simp only [ec_X]
    grind
  · show ec_Y u v = ec_Y v u
    simp only [ec_Y]
    grind
  · show ec_Z u v = ec_Z v u
    simp only [ec_Z]
    grind
theorem ec_C_0 {K : Type} [Lean.Grind.CommRing K] (b : K) (v : ec_T K) : ec_C (0, b, 0) v = ec_sm (b * b * v.2.1) v := by
  refine Prod.ext ?_ (Prod.ext ?_ ?_)
  · show ec_X (0, b, 0) v = b * b * v.2.1 * v.1
    simp only [ec_X]
    grind
  · show ec_Y (0, b, 0) v = b * b * v.2.1 * v.2.1
    simp only [ec_Y]
    grind
  · show ec_Z (0, b, 0) v = b * b * v.2.1 * v.2.2
    simp only [ec_Z]
    grind
theorem ec_R_Y {K : Type} [Lean.Grind.CommRing K] {iv : K → K} (hF : ec_F K iv) {P : Option (K × K)} {u : ec_T K} (hP : ec_on P) (h : ec_R P u) : u.2.1 ≠ 0 := by
  cases P with
  | none => exact h.2.1
  | some p =>
    rw [h.2.2]
    exact ec_mulne hF.1 (ec_y0 hF (hP p rfl)) h.1
theorem ec_R_0 {K : Type} [Lean.Grind.CommRing K] [DecidableEq K] {iv : K → K} (hF : ec_F K iv) {Q : Option (K × K)} {u v : ec_T K} (hu : ec_R none u) (hv : ec_R Q v) (hQ : ec_on Q) : ec_R Q (ec_C u v) := by
  obtain ⟨h1, h2, h3⟩ := hu
  have h4 : u = (0, u.2.1, 0) := Prod.ext h1 (Prod.ext rfl h3)
  rw [h4, ec_C_0]
  exact ec_R_sm hF (ec_mulne hF.1 (ec_mulne hF.1 h2 h2) (ec_R_Y hF hQ hv)) hv
theorem ec_rep {K : Type} [Lean.Grind.CommRing K] [DecidableEq K] {iv : K → K} (hF : ec_F K iv) {P Q : Option (K × K)} {u v : ec_T K} (hP : ec_on P) (hQ : ec_on Q) (hu : ec_R P u) (hv : ec_R Q v) : ec_R (ec_ad iv P Q) (ec_C u v) := by
  cases P with
  | none => exact ec_R_0 hF hu hv hQ
  | some p =>
    cases Q with
    | none =>
      rw [ec_C_comm]
      exact ec_R_0 hF hv hu hP
    | some q =>
      obtain ⟨x1, y1⟩ := p
      obtain ⟨x2, y2⟩ := q
      have h1 := ec_rep1 hF (hP _ rfl) (hQ _ rfl)
      rw [ec_sm1 (z := x1) hu.2.1 hu.2.2, ec_sm1 (z := x1) hv.2.1 hv.2.2, ec_C_sm]
      have h2 := ec_mulne hF.1 hu.1 hv.1
      exact ec_R_sm hF (ec_mulne hF.1 h2 h2) h1
theorem ec_uniq {K : Type} [Lean.Grind.CommRing K] {iv : K → K} (hF : ec_F K iv) {P Q : Option (K × K)} {u v : ec_T K} (hu : ec_R P u) (hv : ec_R Q v) (hX : u.1 * v.2.2 = v.1 * u.2.2) (hY : u.2.1 * v.2.2 = v.2.1 * u.2.2) : P = Q := by
  cases P with
  | none =>
    cases Q with
    | none => rfl
    | some q =>
      obtain ⟨h1, h2, h3⟩ := hu
      rw [h3] at hY
      have h4 : u.2.1 * v.2.2 = 0 := by rw [hY]; grind
      exact absurd h4 (ec_mulne hF.1 h2 hv.1)
  | some p =>
    cases Q with
    | none =>
      obtain ⟨h1, h2, h3⟩ := hv
      rw [h3] at hY
      have h4 : v.2.1 * u.2.2 = 0 := by rw [← hY]; grind
      exact absurd h4 (ec_mulne hF.1 h2 hu.1)
    | some q =>
      have hz := ec_mulne hF.1 hu.1 hv.1
      have e1 : p.1 = q.1 := by
        refine ec_canc hF.1 hz ?_
        rw [hu.2.1, hv.2.1] at hX
        grind
      have e2 : p.2 = q.2 := by
        refine ec_canc hF.1 hz ?_
        rw [hu.2.2, hv.2.2] at hY
        grind
      rw [Prod.ext e1 e2]
theorem ec_R_aff {K : Type} [Lean.Grind.CommRing K] {iv : K → K} (hF : ec_F K iv) (x y : K) : ec_R (some (x, y)) (x, y, 1) := by
  refine ⟨hF.2.2.2.2, ?_, ?_⟩
  · show x = x * 1
    grind
  · show y = y * 1
    grind
theorem ec_comm {K : Type} [Lean.Grind.CommRing K] [DecidableEq K] {iv : K → K} (hF : ec_F K iv) {P Q : Option (K × K)} (hP : ec_on P) (hQ : ec_on Q) : ec_ad iv P Q = ec_ad iv Q P := by
  cases P with
  | none => cases Q with
    | none => rfl
    | some q => rfl
  | some p => cases Q with
    | none => rfl
    | some q =>
      obtain ⟨x1, y1⟩ := p
      obtain ⟨x2, y2⟩ := q
      have h1 := ec_rep1 hF (hP _ rfl) (hQ _ rfl)
      have h2 := ec_rep1 hF (hQ _ rfl) (hP _ rfl)
      rw [ec_C_comm] at h2
      exact ec_uniq hF h1 h2 rfl rfl
theorem ec_assoc {K : Type} [Lean.Grind.CommRing K] [DecidableEq K] {iv : K → K} (hF : ec_F K iv) {P Q R : Option (K × K)} (hP : ec_on P) (hQ : ec_on Q) (hR : ec_on R) : ec_ad iv (ec_ad iv P Q) R = ec_ad iv P (ec_ad iv Q R) := by
  cases P with
  | none => rfl
  | some p =>
    cases Q with
    | none => rfl
    | some q =>
      cases R with
      | none =>
        have h9 : ∀ X : Option (K × K), ec_ad iv X none = X := fun X => by cases X <;> rfl
        rw [h9, h9]
      | some r =>
        obtain ⟨x1, y1⟩ := p
        obtain ⟨x2, y2⟩ := q
        obtain ⟨x3, y3⟩ := r
        have a1 := hP _ rfl
        have a2 := hQ _ rfl
        have a3 := hR _ rfl
        have h12 := ec_rep1 hF a1 a2
        have h23 := ec_rep1 hF a2 a3
        have hL := ec_rep hF (ec_on_ad hF hP hQ) hR h12 (ec_R_aff hF x3 y3)
        have hR9 := ec_rep hF hP (ec_on_ad hF hQ hR) (ec_R_aff hF x1 y1) h23
        exact ec_uniq hF hL hR9 (ec_asX a1 a2 a3) (ec_asY a1 a2 a3)
-- multiples
def ec_n {K : Type} [Lean.Grind.CommRing K] [DecidableEq K] (iv : K → K) (P : Option (K × K)) : Nat → Option (K × K)
  | 0 => none
  | k + 1 => ec_ad iv (ec_n iv P k) P
theorem ec_on_n {K : Type} [Lean.Grind.CommRing K] [DecidableEq K] {iv : K → K} (hF : ec_F K iv) {P : Option (K × K)} (hP : ec_on P) (k : Nat) : ec_on (ec_n iv P k) := by
  induction k with
  | zero => intro p h; cases h
  | succ k ih => exact ec_on_ad hF ih hP
theorem ec_n_add {K : Type} [Lean.Grind.CommRing K] [DecidableEq K] {iv : K → K} (hF : ec_F K iv) {P : Option (K × K)} (hP : ec_on P) (a b : Nat) : ec_ad iv (ec_n iv P a) (ec_n iv P b) = ec_n iv P (a + b) := by
  induction b with
  | zero =>
    show ec_ad iv (ec_n iv P a) none = ec_n iv P a
    cases ec_n iv P a <;> rfl
  | succ b ih =>
    show ec_ad iv (ec_n iv P a) (ec_ad iv (ec_n iv P b) P) = ec_ad iv (ec_n iv P (a + b)) P
    rw [← ih, ec_assoc hF (ec_on_n hF hP a) (ec_on_n hF hP b) hP]
theorem ec_n_1 {K : Type} [Lean.Grind.CommRing K] [DecidableEq K] {iv : K → K} (P : Option (K × K)) : ec_n iv P 1 = P := rfl
theorem ec_n_mul {K : Type} [Lean.Grind.CommRing K] [DecidableEq K] {iv : K → K} (hF : ec_F K iv) {P : Option (K × K)} (hP : ec_on P) (a b : Nat) : ec_n iv (ec_n iv P a) b = ec_n iv P (a * b) := by
  induction b with
  | zero => rfl
  | succ b ih =>
    show ec_ad iv (ec_n iv (ec_n iv P a) b) (ec_n iv P a) = ec_n iv P (a * (b + 1))
    rw [ih, ec_n_add hF hP]
    rfl
theorem ec_n_0 {K : Type} [Lean.Grind.CommRing K] [DecidableEq K] {iv : K → K} (k : Nat) : ec_n iv (none : Option (K × K)) k = none := by
  induction k with
  | zero => rfl
  | succ k ih =>
    show ec_ad iv (ec_n iv none k) none = none
    rw [ih]
    rfl
theorem ec_n_mod {K : Type} [Lean.Grind.CommRing K] [DecidableEq K] {iv : K → K} (hF : ec_F K iv) {P : Option (K × K)} (hP : ec_on P) {n : Nat} (hn : ec_n iv P n = none) (k : Nat) : ec_n iv P (k % n) = ec_n iv P k := by
  have h1 : ec_n iv P (n * (k / n) + k % n) = ec_n iv P (k % n) := by
    rw [← ec_n_add hF hP, ← ec_n_mul hF hP, hn, ec_n_0]
    rfl
  rw [← h1, Nat.div_add_mod]
