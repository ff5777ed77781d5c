section
/-! Polynomials in x1 x2 x3 y1 y2 y3 with whole coefficients, for identities modulo y * y = x * x * x + 7: an own small normaliser. -/
abbrev zp_M : Type := Nat × Nat × Nat × Nat × Nat × Nat
abbrev zp_P : Type := List (zp_M × Int)
def zp_cd (a : zp_M) : Nat := a.1 + 64 * (a.2.1 + 64 * (a.2.2.1 + 64 * (a.2.2.2.1 + 64 * (a.2.2.2.2.1 + 64 * a.2.2.2.2.2))))
def zp_eqm (a b : zp_M) : Bool := Nat.beq a.1 b.1 && (Nat.beq a.2.1 b.2.1 && (Nat.beq a.2.2.1 b.2.2.1 && (Nat.beq a.2.2.2.1 b.2.2.2.1 && (Nat.beq a.2.2.2.2.1 b.2.2.2.2.1 && Nat.beq a.2.2.2.2.2 b.2.2.2.2.2))))
theorem zp_eqm_spec {a b : zp_M} (h : zp_eqm a b = true) : a = b := by
  obtain ⟨a1, a2, a3, a4, a5, a6⟩ := a
  obtain ⟨b1, b2, b3, b4, b5, b6⟩ := b
  simp only [zp_eqm, Bool.and_eq_true] at h
  obtain ⟨h1, h2, h3, h4, h5, h6⟩ := h
  have e1 := Nat.eq_of_beq_eq_true h1
  have e2 := Nat.eq_of_beq_eq_true h2
  have e3 := Nat.eq_of_beq_eq_true h3
  have e4 := Nat.eq_of_beq_eq_true h4
  have e5 := Nat.eq_of_beq_eq_true h5
  have e6 := Nat.eq_of_beq_eq_true h6
  subst e1; subst e2; subst e3; subst e4; subst e5; subst e6
  rfl
def zp_mm (a b : zp_M) : zp_M := (a.1 + b.1, a.2.1 + b.2.1, a.2.2.1 + b.2.2.1, a.2.2.2.1 + b.2.2.2.1, a.2.2.2.2.1 + b.2.2.2.2.1, a.2.2.2.2.2 + b.2.2.2.2.2)
def zp_cs (k : zp_M) (c : Int) (p : zp_P) : zp_P := if c = 0 then p else (k, c) :: p
def zp_go (k : zp_M) (c : Int) (f : zp_P → zp_P) : zp_P → zp_P
  | [] => (k, c) :: f []
  | t :: q => cond (Nat.blt (zp_cd k) (zp_cd t.1)) (t :: zp_go k c f q) (cond (zp_eqm k t.1) (zp_cs k (c + t.2) (f q)) ((k, c) :: f (t :: q)))
def zp_add : zp_P → zp_P → zp_P
  | [], q => q
  | t :: p, q => zp_go t.1 t.2 (zp_add p) q
def zp_tm (k : zp_M) (c : Int) (p : zp_P) : zp_P := p.map fun t => (zp_mm k t.1, c * t.2)
def zp_mr : zp_P → zp_P → zp_P
  | [], _ => []
  | t :: p, q => zp_add (zp_tm t.1 t.2 q) (zp_mr p q)
def zp_ng (p : zp_P) : zp_P := p.map fun t => (t.1, -t.2)
/-- y * y becomes x * x * x + 7, by a variable: 'hi' tells that a term has y * y in it -/
def zp_rd (hi : zp_M → Bool) (B C : zp_M → zp_M) (p : zp_P) : zp_P :=
  zp_add (p.filter fun t => !hi t.1) (zp_add ((p.filter fun t => hi t.1).map fun t => (B t.1, t.2)) ((p.filter fun t => hi t.1).map fun t => (C t.1, 7 * t.2)))
def zp_h1 (k : zp_M) : Bool := Nat.ble 2 k.2.2.2.1
def zp_b1 (k : zp_M) : zp_M := (k.1 + 3, k.2.1, k.2.2.1, k.2.2.2.1 - 2, k.2.2.2.2.1, k.2.2.2.2.2)
def zp_c1 (k : zp_M) : zp_M := (k.1, k.2.1, k.2.2.1, k.2.2.2.1 - 2, k.2.2.2.2.1, k.2.2.2.2.2)
def zp_h2 (k : zp_M) : Bool := Nat.ble 2 k.2.2.2.2.1
def zp_b2 (k : zp_M) : zp_M := (k.1, k.2.1 + 3, k.2.2.1, k.2.2.2.1, k.2.2.2.2.1 - 2, k.2.2.2.2.2)
def zp_c2 (k : zp_M) : zp_M := (k.1, k.2.1, k.2.2.1, k.2.2.2.1, k.2.2.2.2.1 - 2, k.2.2.2.2.2)
def zp_h3 (k : zp_M) : Bool := Nat.ble 2 k.2.2.2.2.2
def zp_b3 (k : zp_M) : zp_M := (k.1, k.2.1, k.2.2.1 + 3, k.2.2.2.1, k.2.2.2.2.1, k.2.2.2.2.2 - 2)
def zp_c3 (k : zp_M) : zp_M := (k.1, k.2.1, k.2.2.1, k.2.2.2.1, k.2.2.2.2.1, k.2.2.2.2.2 - 2)
def zp_mu (p q : zp_P) : zp_P := zp_rd zp_h3 zp_b3 zp_c3 (zp_rd zp_h2 zp_b2 zp_c2 (zp_rd zp_h1 zp_b1 zp_c1 (zp_mr p q)))
def zp_sb (p q : zp_P) : zp_P := zp_add p (zp_ng q)
def zp_k (c : Int) : zp_P := [((0, 0, 0, 0, 0, 0), c)]
def zp_x1 : zp_P := [((1, 0, 0, 0, 0, 0), 1)]
def zp_x2 : zp_P := [((0, 1, 0, 0, 0, 0), 1)]
def zp_x3 : zp_P := [((0, 0, 1, 0, 0, 0), 1)]
def zp_y1 : zp_P := [((0, 0, 0, 1, 0, 0), 1)]
def zp_y2 : zp_P := [((0, 0, 0, 0, 1, 0), 1)]
def zp_y3 : zp_P := [((0, 0, 0, 0, 0, 1), 1)]
-- what they mean in a ring
def zp_c {K : Type} [Lean.Grind.CommRing K] (c : Int) : K := (Lean.Grind.Ring.intCast (α := K)).intCast c
theorem zp_c_add {K : Type} [Lean.Grind.CommRing K] (a b : Int) : zp_c (K := K) (a + b) = zp_c a + zp_c b := Lean.Grind.Ring.intCast_add a b
theorem zp_c_mul {K : Type} [Lean.Grind.CommRing K] (a b : Int) : zp_c (K := K) (a * b) = zp_c a * zp_c b := Lean.Grind.Ring.intCast_mul a b
theorem zp_c_neg {K : Type} [Lean.Grind.CommRing K] (a : Int) : zp_c (K := K) (-a) = -zp_c a := Lean.Grind.Ring.intCast_neg a
theorem zp_c_0 {K : Type} [Lean.Grind.CommRing K] : zp_c (K := K) 0 = 0 := Lean.Grind.Ring.intCast_zero
theorem zp_c_1 {K : Type} [Lean.Grind.CommRing K] : zp_c (K := K) 1 = 1 := Lean.Grind.Ring.intCast_one
theorem zp_c_nat {K : Type} [Lean.Grind.CommRing K] (n : Nat) : zp_c (K := K) (OfNat.ofNat n) = OfNat.ofNat n := Lean.Grind.Ring.intCast_ofNat n
def zp_mo {K : Type} [Lean.Grind.CommRing K] (x1 x2 x3 y1 y2 y3 : K) (k : zp_M) : K := x1 ^ k.1 * (x2 ^ k.2.1 * (x3 ^ k.2.2.1 * (y1 ^ k.2.2.2.1 * (y2 ^ k.2.2.2.2.1 * y3 ^ k.2.2.2.2.2))))
def zp_ev {K : Type} [Lean.Grind.CommRing K] (x1 x2 x3 y1 y2 y3 : K) : zp_P → K
  | [] => 0
  | t :: p => zp_c t.2 * zp_mo x1 x2 x3 y1 y2 y3 t.1 + zp_ev x1 x2 x3 y1 y2 y3 p
theorem zp_mo_mm {K : Type} [Lean.Grind.CommRing K] (x1 x2 x3 y1 y2 y3 : K) (a b : zp_M) : zp_mo x1 x2 x3 y1 y2 y3 (zp_mm a b) = zp_mo x1 x2 x3 y1 y2 y3 a * zp_mo x1 x2 x3 y1 y2 y3 b := by
  simp only [zp_mo, zp_mm, Lean.Grind.Semiring.pow_add]
  grind
theorem zp_ev_cs {K : Type} [Lean.Grind.CommRing K] (x1 x2 x3 y1 y2 y3 : K) (k : zp_M) (c : Int) (p : zp_P) : zp_ev x1 x2 x3 y1 y2 y3 (zp_cs k c p) = zp_c c * zp_mo x1 x2 x3 y1 y2 y3 k + zp_ev x1 x2 x3 y1 y2 y3 p := by
  unfold zp_cs
  split
  · next h => rw [h, zp_c_0]; grind
  · rfl
theorem zp_ev_go {K : Type} [Lean.Grind.CommRing K] (x1 x2 x3 y1 y2 y3 : K) (k : zp_M) (c : Int) (f : zp_P → zp_P) (E : K) (hf : ∀ q, zp_ev x1 x2 x3 y1 y2 y3 (f q) = E + zp_ev x1 x2 x3 y1 y2 y3 q) (q : zp_P) :
    zp_ev x1 x2 x3 y1 y2 y3 (zp_go k c f q) = zp_c c * zp_mo x1 x2 x3 y1 y2 y3 k + E + zp_ev x1 x2 x3 y1 y2 y3 q := by
  induction q with
  | nil => simp only [zp_go, zp_ev, hf]; grind
  | cons t q ih =>
    simp only [zp_go]
    cases hb : Nat.blt (zp_cd k) (zp_cd t.1)
    · cases he : zp_eqm k t.1
      · simp only [cond, zp_ev, hf]; grind
      · have h9 := zp_eqm_spec he
        simp only [cond, zp_ev_cs, hf, zp_ev, zp_c_add, ← h9]; grind
    · simp only [cond, zp_ev, ih]; grind
theorem zp_ev_add {K : Type} [Lean.Grind.CommRing K] (x1 x2 x3 y1 y2 y3 : K) (p q : zp_P) : zp_ev x1 x2 x3 y1 y2 y3 (zp_add p q) = zp_ev x1 x2 x3 y1 y2 y3 p + zp_ev x1 x2 x3 y1 y2 y3 q := by
  induction p generalizing q with
  | nil => simp only [zp_add, zp_ev]; grind
  | cons t p ih => simp only [zp_add]; rw [zp_ev_go x1 x2 x3 y1 y2 y3 t.1 t.2 (zp_add p) (zp_ev x1 x2 x3 y1 y2 y3 p) ih q]; simp only [zp_ev]
theorem zp_ev_tm {K : Type} [Lean.Grind.CommRing K] (x1 x2 x3 y1 y2 y3 : K) (k : zp_M) (c : Int) (p : zp_P) : zp_ev x1 x2 x3 y1 y2 y3 (zp_tm k c p) = zp_c c * zp_mo x1 x2 x3 y1 y2 y3 k * zp_ev x1 x2 x3 y1 y2 y3 p := by
  unfold zp_tm
  induction p with
  | nil => simp only [List.map, zp_ev]; grind
  | cons t p ih => simp only [List.map, zp_ev, ih, zp_mo_mm, zp_c_mul]; grind
theorem zp_ev_mr {K : Type} [Lean.Grind.CommRing K] (x1 x2 x3 y1 y2 y3 : K) (p q : zp_P) : zp_ev x1 x2 x3 y1 y2 y3 (zp_mr p q) = zp_ev x1 x2 x3 y1 y2 y3 p * zp_ev x1 x2 x3 y1 y2 y3 q := by
  induction p with
  | nil => simp only [zp_mr, zp_ev]; grind
  | cons t p ih => simp only [zp_mr, zp_ev, zp_ev_add, zp_ev_tm, ih]; grind
theorem zp_ev_ng {K : Type} [Lean.Grind.CommRing K] (x1 x2 x3 y1 y2 y3 : K) (p : zp_P) : zp_ev x1 x2 x3 y1 y2 y3 (zp_ng p) = -zp_ev x1 x2 x3 y1 y2 y3 p := by
  unfold zp_ng
  induction p with
  | nil => simp only [List.map, zp_ev]; grind
  | cons t p ih => simp only [List.map, zp_ev, ih, zp_c_neg]; grind
theorem zp_ev_rd {K : Type} [Lean.Grind.CommRing K] (x1 x2 x3 y1 y2 y3 : K) (hi : zp_M → Bool) (B C : zp_M → zp_M)
    (h : ∀ k, hi k = true → zp_mo x1 x2 x3 y1 y2 y3 k = zp_mo x1 x2 x3 y1 y2 y3 (B k) + 7 * zp_mo x1 x2 x3 y1 y2 y3 (C k)) (p : zp_P) : zp_ev x1 x2 x3 y1 y2 y3 (zp_rd hi B C p) = zp_ev x1 x2 x3 y1 y2 y3 p := by
  unfold zp_rd
  rw [zp_ev_add, zp_ev_add]
  induction p with
  | nil => simp only [List.filter, List.map, zp_ev]; grind
  | cons t p ih =>
    have h7 : zp_c (K := K) (7 * t.2) = 7 * zp_c t.2 := by rw [zp_c_mul]; rw [show zp_c (K := K) 7 = 7 from zp_c_nat 7]
    cases hh : hi t.1
    · simp only [List.filter, hh, Bool.not_false, zp_ev] at ih ⊢
      grind
    · have h9 := h t.1 hh
      simp only [List.filter, hh, Bool.not_true, List.map, zp_ev, h7, h9] at ih ⊢
      grind
theorem zp_pw {K : Type} [Lean.Grind.CommRing K] (y : K) {n : Nat} (h : Nat.ble 2 n = true) : y ^ n = y * y * y ^ (n - 2) := by
  have h2 := Nat.le_of_ble_eq_true h
  obtain ⟨m, rfl⟩ : ∃ m, n = m + 2 := ⟨n - 2, by omega⟩
  rw [show m + 2 - 2 = m by omega, Lean.Grind.Semiring.pow_succ, Lean.Grind.Semiring.pow_succ]
  grind
theorem zp_pw3 {K : Type} [Lean.Grind.CommRing K] (x : K) (n : Nat) : x ^ (n + 3) = x * x * x * x ^ n := by
  rw [Lean.Grind.Semiring.pow_succ, Lean.Grind.Semiring.pow_succ, Lean.Grind.Semiring.pow_succ]
  grind
theorem zp_ev_mu {K : Type} [Lean.Grind.CommRing K] {x1 x2 x3 y1 y2 y3 : K} (h1 : y1 * y1 = x1 * x1 * x1 + 7) (h2 : y2 * y2 = x2 * x2 * x2 + 7) (h3 : y3 * y3 = x3 * x3 * x3 + 7) (p q : zp_P) :
    zp_ev x1 x2 x3 y1 y2 y3 (zp_mu p q) = zp_ev x1 x2 x3 y1 y2 y3 p * zp_ev x1 x2 x3 y1 y2 y3 q := by
  unfold zp_mu
  rw [zp_ev_rd, zp_ev_rd, zp_ev_rd, zp_ev_mr]
  · intro k hk
    simp only [zp_mo, zp_b1, zp_c1]
    rw [zp_pw y1 hk, h1, zp_pw3]
    grind
  · intro k hk
    simp only [zp_mo, zp_b2, zp_c2]
    rw [zp_pw y2 hk, h2, zp_pw3]
    grind
  · intro k hk
    simp only [zp_mo, zp_b3, zp_c3]
    rw [zp_pw y3 hk, h3, zp_pw3]
    grind
theorem zp_ev_sb {K : Type} [Lean.Grind.CommRing K] (x1 x2 x3 y1 y2 y3 : K) (p q : zp_P) : zp_ev x1 x2 x3 y1 y2 y3 (zp_sb p q) = zp_ev x1 x2 x3 y1 y2 y3 p - zp_ev x1 x2 x3 y1 y2 y3 q := by
  unfold zp_sb
  rw [zp_ev_add, zp_ev_ng]
  grind
theorem zp_ev_k {K : Type} [Lean.Grind.CommRing K] (x1 x2 x3 y1 y2 y3 : K) (c : Int) : zp_ev x1 x2 x3 y1 y2 y3 (zp_k c) = zp_c c := by
  simp only [zp_k, zp_ev, zp_mo, Lean.Grind.Semiring.pow_zero]
  grind
theorem zp_ev_x1 {K : Type} [Lean.Grind.CommRing K] (x1 x2 x3 y1 y2 y3 : K) : zp_ev x1 x2 x3 y1 y2 y3 zp_x1 = x1 := by
  simp only [zp_x1, zp_ev, zp_mo, zp_c_1, Lean.Grind.Semiring.pow_zero, Lean.Grind.Semiring.pow_one]
  grind
theorem zp_ev_x2 {K : Type} [Lean.Grind.CommRing K] (x1 x2 x3 y1 y2 y3 : K) : zp_ev x1 x2 x3 y1 y2 y3 zp_x2 = x2 := by
  simp only [zp_x2, zp_ev, zp_mo, zp_c_1, Lean.Grind.Semiring.pow_zero, Lean.Grind.Semiring.pow_one]
  grind
theorem zp_ev_x3 {K : Type} [Lean.Grind.CommRing K] (x1 x2 x3 y1 y2 y3 : K) : zp_ev x1 x2 x3 y1 y2 y3 zp_x3 = x3 := by
  simp only [zp_x3, zp_ev, zp_mo, zp_c_1, Lean.Grind.Semiring.pow_zero, Lean.Grind.Semiring.pow_one]
  grind
theorem zp_ev_y1 {K : Type} [Lean.Grind.CommRing K] (x1 x2 x3 y1 y2 y3 : K) : zp_ev x1 x2 x3 y1 y2 y3 zp_y1 = y1 := by
  simp only [zp_y1, zp_ev, zp_mo, zp_c_1, Lean.Grind.Semiring.pow_zero, Lean.Grind.Semiring.pow_one]
  grind
theorem zp_ev_y2 {K : Type} [Lean.Grind.CommRing K] (x1 x2 x3 y1 y2 y3 : K) : zp_ev x1 x2 x3 y1 y2 y3 zp_y2 = y2 := by
  simp only [zp_y2, zp_ev, zp_mo, zp_c_1, Lean.Grind.Semiring.pow_zero, Lean.Grind.Semiring.pow_one]
  grind
theorem zp_ev_y3 {K : Type} [Lean.Grind.CommRing K] (x1 x2 x3 y1 y2 y3 : K) : zp_ev x1 x2 x3 y1 y2 y3 zp_y3 = y3 := by
  simp only [zp_y3, zp_ev, zp_mo, zp_c_1, Lean.Grind.Semiring.pow_zero, Lean.Grind.Semiring.pow_one]
  grind
end
section
/-! The curve y * y = x * x * x + 7 over a ring without divisors of zero in which x * x * x + 7 is never zero: its addition is associative. By the addition law that has no exceptional pairs there. -/
theorem zp_zero {K : Type} [Lean.Grind.CommRing K] {x1 x2 x3 y1 y2 y3 : K} {p : zp_P} (h : p.isEmpty = true) : zp_ev x1 x2 x3 y1 y2 y3 p = 0 := by
  cases p with
  | nil => rfl
  | cons t p => cases h
theorem ec_sub0 {K : Type} [Lean.Grind.CommRing K] {a b : K} (h : a - b = 0) : a = b := by grind
theorem ec_canc {K : Type} [Lean.Grind.CommRing K] (nz : ∀ a b : K, a * b = 0 → a = 0 ∨ b = 0) {a x y : K} (ha : a ≠ 0) (h : a * x = a * y) : x = y := by
  have h1 : a * (x - y) = 0 := by grind
  rcases nz _ _ h1 with h2 | h2
  · exact absurd h2 ha
  · exact ec_sub0 h2
theorem ec_mulne {K : Type} [Lean.Grind.CommRing K] (nz : ∀ a b : K, a * b = 0 → a = 0 ∨ b = 0) {a b : K} (ha : a ≠ 0) (hb : b ≠ 0) : a * b ≠ 0 := fun h => (nz _ _ h).elim ha hb
abbrev ec_T (K : Type) : Type := K × K × K
def ec_X {K : Type} [Lean.Grind.CommRing K] (u v : ec_T K) : K := (u.1 * v.2.1 + v.1 * u.2.1) * (u.2.1 * v.2.1 - 21 * (u.2.2 * v.2.2)) - 21 * ((u.2.1 * v.2.2 + v.2.1 * u.2.2) * (u.1 * v.2.2 + v.1 * u.2.2))
def ec_Y {K : Type} [Lean.Grind.CommRing K] (u v : ec_T K) : K := (u.2.1 * v.2.1 + 21 * (u.2.2 * v.2.2)) * (u.2.1 * v.2.1 - 21 * (u.2.2 * v.2.2)) + 63 * (u.1 * v.1 * (u.1 * v.2.2 + v.1 * u.2.2))
def ec_Z {K : Type} [Lean.Grind.CommRing K] (u v : ec_T K) : K := (u.2.1 * v.2.2 + v.2.1 * u.2.2) * (u.2.1 * v.2.1 + 21 * (u.2.2 * v.2.2)) + 3 * (u.1 * v.1 * (u.1 * v.2.1 + v.1 * u.2.1))
def ec_C {K : Type} [Lean.Grind.CommRing K] (u v : ec_T K) : ec_T K := (ec_X u v, ec_Y u v, ec_Z u v)
abbrev zp_T : Type := zp_P × zp_P × zp_P
def zp_X (u v : zp_T) : zp_P := zp_sb (zp_mu (zp_add (zp_mu u.1 v.2.1) (zp_mu v.1 u.2.1)) (zp_sb (zp_mu u.2.1 v.2.1) (zp_mu (zp_k 21) (zp_mu u.2.2 v.2.2)))) (zp_mu (zp_k 21) (zp_mu (zp_add (zp_mu u.2.1 v.2.2) (zp_mu v.2.1 u.2.2)) (zp_add (zp_mu u.1 v.2.2) (zp_mu v.1 u.2.2))))
def zp_Y (u v : zp_T) : zp_P := zp_add (zp_mu (zp_add (zp_mu u.2.1 v.2.1) (zp_mu (zp_k 21) (zp_mu u.2.2 v.2.2))) (zp_sb (zp_mu u.2.1 v.2.1) (zp_mu (zp_k 21) (zp_mu u.2.2 v.2.2)))) (zp_mu (zp_k 63) (zp_mu (zp_mu u.1 v.1) (zp_add (zp_mu u.1 v.2.2) (zp_mu v.1 u.2.2))))
def zp_Z (u v : zp_T) : zp_P := zp_add (zp_mu (zp_add (zp_mu u.2.1 v.2.2) (zp_mu v.2.1 u.2.2)) (zp_add (zp_mu u.2.1 v.2.1) (zp_mu (zp_k 21) (zp_mu u.2.2 v.2.2)))) (zp_mu (zp_k 3) (zp_mu (zp_mu u.1 v.1) (zp_add (zp_mu u.1 v.2.1) (zp_mu v.1 u.2.1))))
def zp_C (u v : zp_T) : zp_T := (zp_X u v, zp_Y u v, zp_Z u v)
def zp_et {K : Type} [Lean.Grind.CommRing K] (x1 x2 x3 y1 y2 y3 : K) (u : zp_T) : ec_T K := (zp_ev x1 x2 x3 y1 y2 y3 u.1, zp_ev x1 x2 x3 y1 y2 y3 u.2.1, zp_ev x1 x2 x3 y1 y2 y3 u.2.2)
theorem zp_ev_X {K : Type} [Lean.Grind.CommRing K] {x1 x2 x3 y1 y2 y3 : K} (h1 : y1 * y1 = x1 * x1 * x1 + 7) (h2 : y2 * y2 = x2 * x2 * x2 + 7) (h3 : y3 * y3 = x3 * x3 * x3 + 7) (u v : zp_T) :
    zp_ev x1 x2 x3 y1 y2 y3 (zp_X u v) = ec_X (zp_et x1 x2 x3 y1 y2 y3 u) (zp_et x1 x2 x3 y1 y2 y3 v) := by
  simp only [zp_X, ec_X, zp_et, zp_ev_sb, zp_ev_add, zp_ev_mu h1 h2 h3, zp_ev_k, show zp_c (K := K) 21 = 21 from zp_c_nat 21]
theorem zp_ev_Y {K : Type} [Lean.Grind.CommRing K] {x1 x2 x3 y1 y2 y3 : K} (h1 : y1 * y1 = x1 * x1 * x1 + 7) (h2 : y2 * y2 = x2 * x2 * x2 + 7) (h3 : y3 * y3 = x3 * x3 * x3 + 7) (u v : zp_T) :
    zp_ev x1 x2 x3 y1 y2 y3 (zp_Y u v) = ec_Y (zp_et x1 x2 x3 y1 y2 y3 u) (zp_et x1 x2 x3 y1 y2 y3 v) := by
  simp only [zp_Y, ec_Y, zp_et, zp_ev_sb, zp_ev_add, zp_ev_mu h1 h2 h3, zp_ev_k, show zp_c (K := K) 21 = 21 from zp_c_nat 21, show zp_c (K := K) 63 = 63 from zp_c_nat 63]
theorem zp_ev_Z {K : Type} [Lean.Grind.CommRing K] {x1 x2 x3 y1 y2 y3 : K} (h1 : y1 * y1 = x1 * x1 * x1 + 7) (h2 : y2 * y2 = x2 * x2 * x2 + 7) (h3 : y3 * y3 = x3 * x3 * x3 + 7) (u v : zp_T) :
    zp_ev x1 x2 x3 y1 y2 y3 (zp_Z u v) = ec_Z (zp_et x1 x2 x3 y1 y2 y3 u) (zp_et x1 x2 x3 y1 y2 y3 v) := by
  simp only [zp_Z, ec_Z, zp_et, zp_ev_sb, zp_ev_add, zp_ev_mu h1 h2 h3, zp_ev_k, show zp_c (K := K) 21 = 21 from zp_c_nat 21, show zp_c (K := K) 3 = 3 from zp_c_nat 3]
def zp_p1 : zp_T := (zp_x1, zp_y1, zp_k 1)
def zp_p2 : zp_T := (zp_x2, zp_y2, zp_k 1)
def zp_p3 : zp_T := (zp_x3, zp_y3, zp_k 1)
theorem zp_et_p1 {K : Type} [Lean.Grind.CommRing K] (x1 x2 x3 y1 y2 y3 : K) : zp_et x1 x2 x3 y1 y2 y3 zp_p1 = (x1, y1, 1) := by simp only [zp_et, zp_p1, zp_ev_x1, zp_ev_y1, zp_ev_k, zp_c_1]
theorem zp_et_p2 {K : Type} [Lean.Grind.CommRing K] (x1 x2 x3 y1 y2 y3 : K) : zp_et x1 x2 x3 y1 y2 y3 zp_p2 = (x2, y2, 1) := by simp only [zp_et, zp_p2, zp_ev_x2, zp_ev_y2, zp_ev_k, zp_c_1]
theorem zp_et_p3 {K : Type} [Lean.Grind.CommRing K] (x1 x2 x3 y1 y2 y3 : K) : zp_et x1 x2 x3 y1 y2 y3 zp_p3 = (x3, y3, 1) := by simp only [zp_et, zp_p3, zp_ev_x3, zp_ev_y3, zp_ev_k, zp_c_1]
theorem zp_et_C {K : Type} [Lean.Grind.CommRing K] {x1 x2 x3 y1 y2 y3 : K} (h1 : y1 * y1 = x1 * x1 * x1 + 7) (h2 : y2 * y2 = x2 * x2 * x2 + 7) (h3 : y3 * y3 = x3 * x3 * x3 + 7) (u v : zp_T) :
    zp_et x1 x2 x3 y1 y2 y3 (zp_C u v) = ec_C (zp_et x1 x2 x3 y1 y2 y3 u) (zp_et x1 x2 x3 y1 y2 y3 v) := by
  show (zp_ev x1 x2 x3 y1 y2 y3 (zp_X u v), zp_ev x1 x2 x3 y1 y2 y3 (zp_Y u v), zp_ev x1 x2 x3 y1 y2 y3 (zp_Z u v)) = _
  rw [zp_ev_X h1 h2 h3, zp_ev_Y h1 h2 h3, zp_ev_Z h1 h2 h3]
  rfl
-- two points: the chord and the tangent, by numerators
def ec_nx {K : Type} [Lean.Grind.CommRing K] (d n x1 x2 : K) : K := n * n - (x1 + x2) * (d * d)
def ec_ny {K : Type} [Lean.Grind.CommRing K] (d n x1 x2 y1 : K) : K := n * (x1 * (d * d) - ec_nx d n x1 x2) - y1 * (d * d * d)
def zp_nx (d n x1 x2 : zp_P) : zp_P := zp_sb (zp_mu n n) (zp_mu (zp_add x1 x2) (zp_mu d d))
def zp_ny (d n x1 x2 y1 : zp_P) : zp_P := zp_sb (zp_mu n (zp_sb (zp_mu x1 (zp_mu d d)) (zp_nx d n x1 x2))) (zp_mu y1 (zp_mu (zp_mu d d) d))
theorem zp_ev_nx {K : Type} [Lean.Grind.CommRing K] {x1 x2 x3 y1 y2 y3 : K} (h1 : y1 * y1 = x1 * x1 * x1 + 7) (h2 : y2 * y2 = x2 * x2 * x2 + 7) (h3 : y3 * y3 = x3 * x3 * x3 + 7) (d n a b : zp_P) :
    zp_ev x1 x2 x3 y1 y2 y3 (zp_nx d n a b) = ec_nx (zp_ev x1 x2 x3 y1 y2 y3 d) (zp_ev x1 x2 x3 y1 y2 y3 n) (zp_ev x1 x2 x3 y1 y2 y3 a) (zp_ev x1 x2 x3 y1 y2 y3 b) := by
  simp only [zp_nx, ec_nx, zp_ev_sb, zp_ev_add, zp_ev_mu h1 h2 h3]
theorem zp_ev_ny {K : Type} [Lean.Grind.CommRing K] {x1 x2 x3 y1 y2 y3 : K} (h1 : y1 * y1 = x1 * x1 * x1 + 7) (h2 : y2 * y2 = x2 * x2 * x2 + 7) (h3 : y3 * y3 = x3 * x3 * x3 + 7) (d n a b c : zp_P) :
    zp_ev x1 x2 x3 y1 y2 y3 (zp_ny d n a b c) = ec_ny (zp_ev x1 x2 x3 y1 y2 y3 d) (zp_ev x1 x2 x3 y1 y2 y3 n) (zp_ev x1 x2 x3 y1 y2 y3 a) (zp_ev x1 x2 x3 y1 y2 y3 b) (zp_ev x1 x2 x3 y1 y2 y3 c) := by
  simp only [zp_ny, ec_ny, zp_ev_sb, zp_ev_nx h1 h2 h3, zp_ev_mu h1 h2 h3]
def zp_D : zp_P := zp_sb zp_x2 zp_x1
def zp_N : zp_P := zp_sb zp_y2 zp_y1
def zp_S : zp_P := zp_sb (zp_ng zp_y2) zp_y1
def zp_U : zp_P := zp_add zp_y1 zp_y1
def zp_V : zp_P := zp_mu (zp_k 3) (zp_mu zp_x1 zp_x1)
set_option maxRecDepth 100000 in
theorem zp_i1 : (zp_sb (zp_mu (zp_mu zp_D zp_D) (zp_X zp_p1 zp_p2)) (zp_mu (zp_nx zp_D zp_N zp_x1 zp_x2) (zp_Z zp_p1 zp_p2))).isEmpty = true := by decide +kernel
set_option maxRecDepth 100000 in
theorem zp_i2 : (zp_sb (zp_mu (zp_mu (zp_mu zp_D zp_D) zp_D) (zp_Y zp_p1 zp_p2)) (zp_mu (zp_ny zp_D zp_N zp_x1 zp_x2 zp_y1) (zp_Z zp_p1 zp_p2))).isEmpty = true := by decide +kernel
set_option maxRecDepth 100000 in
theorem zp_i3 : (zp_sb (zp_ny zp_D zp_S zp_x1 zp_x2 zp_y1) (zp_Z zp_p1 zp_p2)).isEmpty = true := by decide +kernel
set_option maxRecDepth 100000 in
theorem zp_i4 : (zp_sb (zp_mu (zp_ny zp_D zp_N zp_x1 zp_x2 zp_y1) (zp_ny zp_D zp_N zp_x1 zp_x2 zp_y1)) (zp_add (zp_mu (zp_mu (zp_nx zp_D zp_N zp_x1 zp_x2) (zp_nx zp_D zp_N zp_x1 zp_x2)) (zp_nx zp_D zp_N zp_x1 zp_x2)) (zp_mu (zp_k 7) (zp_mu (zp_mu (zp_mu zp_D zp_D) zp_D) (zp_mu (zp_mu zp_D zp_D) zp_D))))).isEmpty = true := by decide +kernel
set_option maxRecDepth 100000 in
theorem zp_i5 : (zp_sb (zp_mu (zp_mu zp_U zp_U) (zp_X zp_p1 zp_p1)) (zp_mu (zp_nx zp_U zp_V zp_x1 zp_x1) (zp_Z zp_p1 zp_p1))).isEmpty = true := by decide +kernel
set_option maxRecDepth 100000 in
theorem zp_i6 : (zp_sb (zp_mu (zp_mu (zp_mu zp_U zp_U) zp_U) (zp_Y zp_p1 zp_p1)) (zp_mu (zp_ny zp_U zp_V zp_x1 zp_x1 zp_y1) (zp_Z zp_p1 zp_p1))).isEmpty = true := by decide +kernel
set_option maxRecDepth 100000 in
theorem zp_i7 : (zp_sb (zp_Z zp_p1 zp_p1) (zp_mu (zp_mu zp_U zp_U) zp_U)).isEmpty = true := by decide +kernel
set_option maxRecDepth 100000 in
theorem zp_i8 : (zp_sb (zp_mu (zp_ny zp_U zp_V zp_x1 zp_x1 zp_y1) (zp_ny zp_U zp_V zp_x1 zp_x1 zp_y1)) (zp_add (zp_mu (zp_mu (zp_nx zp_U zp_V zp_x1 zp_x1) (zp_nx zp_U zp_V zp_x1 zp_x1)) (zp_nx zp_U zp_V zp_x1 zp_x1)) (zp_mu (zp_k 7) (zp_mu (zp_mu (zp_mu zp_U zp_U) zp_U) (zp_mu (zp_mu zp_U zp_U) zp_U))))).isEmpty = true := by decide +kernel
set_option maxRecDepth 100000 in
theorem zp_i9 : (zp_sb (zp_Y zp_p1 (zp_x1, zp_ng zp_y1, zp_k 1)) (zp_ny zp_U zp_V zp_x1 zp_x1 zp_y1)).isEmpty = true := by decide +kernel
section
theorem ec_i1 {K : Type} [Lean.Grind.CommRing K] {x1 x2 y1 y2 : K} (h1 : y1 * y1 = x1 * x1 * x1 + 7) (h2 : y2 * y2 = x2 * x2 * x2 + 7) :
    (x2 - x1) * (x2 - x1) * ec_X (x1, y1, 1) (x2, y2, 1) = ec_nx (x2 - x1) (y2 - y1) x1 x2 * ec_Z (x1, y1, 1) (x2, y2, 1) := by
  have h := zp_zero (x1 := x1) (x2 := x2) (x3 := x1) (y1 := y1) (y2 := y2) (y3 := y1) zp_i1
  simp only [zp_D, zp_N, zp_ev_sb, zp_ev_mu h1 h2 h1, zp_ev_nx h1 h2 h1, zp_ev_X h1 h2 h1, zp_ev_Z h1 h2 h1, zp_et_p1, zp_et_p2, zp_ev_x1, zp_ev_x2, zp_ev_y1, zp_ev_y2] at h
  exact ec_sub0 h
theorem ec_i2 {K : Type} [Lean.Grind.CommRing K] {x1 x2 y1 y2 : K} (h1 : y1 * y1 = x1 * x1 * x1 + 7) (h2 : y2 * y2 = x2 * x2 * x2 + 7) :
    (x2 - x1) * (x2 - x1) * (x2 - x1) * ec_Y (x1, y1, 1) (x2, y2, 1) = ec_ny (x2 - x1) (y2 - y1) x1 x2 y1 * ec_Z (x1, y1, 1) (x2, y2, 1) := by
  have h := zp_zero (x1 := x1) (x2 := x2) (x3 := x1) (y1 := y1) (y2 := y2) (y3 := y1) zp_i2
  simp only [zp_D, zp_N, zp_ev_sb, zp_ev_mu h1 h2 h1, zp_ev_ny h1 h2 h1, zp_ev_Y h1 h2 h1, zp_ev_Z h1 h2 h1, zp_et_p1, zp_et_p2, zp_ev_x1, zp_ev_x2, zp_ev_y1, zp_ev_y2] at h
  exact ec_sub0 h
theorem ec_i3 {K : Type} [Lean.Grind.CommRing K] {x1 x2 y1 y2 : K} (h1 : y1 * y1 = x1 * x1 * x1 + 7) (h2 : y2 * y2 = x2 * x2 * x2 + 7) :
    ec_ny (x2 - x1) (-y2 - y1) x1 x2 y1 = ec_Z (x1, y1, 1) (x2, y2, 1) := by
  have h := zp_zero (x1 := x1) (x2 := x2) (x3 := x1) (y1 := y1) (y2 := y2) (y3 := y1) zp_i3
  simp only [zp_D, zp_S, zp_ev_sb, zp_ev_ng, zp_ev_ny h1 h2 h1, zp_ev_Z h1 h2 h1, zp_et_p1, zp_et_p2, zp_ev_x1, zp_ev_x2, zp_ev_y1, zp_ev_y2] at h
  exact ec_sub0 h
theorem ec_i4 {K : Type} [Lean.Grind.CommRing K] {x1 x2 y1 y2 : K} (h1 : y1 * y1 = x1 * x1 * x1 + 7) (h2 : y2 * y2 = x2 * x2 * x2 + 7) :
    ec_ny (x2 - x1) (y2 - y1) x1 x2 y1 * ec_ny (x2 - x1) (y2 - y1) x1 x2 y1 = ec_nx (x2 - x1) (y2 - y1) x1 x2 * ec_nx (x2 - x1) (y2 - y1) x1 x2 * ec_nx (x2 - x1) (y2 - y1) x1 x2 + 7 * ((x2 - x1) * (x2 - x1) * (x2 - x1) * ((x2 - x1) * (x2 - x1) * (x2 - x1))) := by
  have h := zp_zero (x1 := x1) (x2 := x2) (x3 := x1) (y1 := y1) (y2 := y2) (y3 := y1) zp_i4
  simp only [zp_D, zp_N, zp_ev_sb, zp_ev_add, zp_ev_mu h1 h2 h1, zp_ev_ny h1 h2 h1, zp_ev_nx h1 h2 h1, zp_ev_x1, zp_ev_x2, zp_ev_y1, zp_ev_y2, zp_ev_k, show zp_c (K := K) 7 = 7 from zp_c_nat 7] at h
  exact ec_sub0 h
theorem ec_i5 {K : Type} [Lean.Grind.CommRing K] {x1 y1 : K} (h1 : y1 * y1 = x1 * x1 * x1 + 7) :
    (y1 + y1) * (y1 + y1) * ec_X (x1, y1, 1) (x1, y1, 1) = ec_nx (y1 + y1) (3 * (x1 * x1)) x1 x1 * ec_Z (x1, y1, 1) (x1, y1, 1) := by
  have h := zp_zero (x1 := x1) (x2 := x1) (x3 := x1) (y1 := y1) (y2 := y1) (y3 := y1) zp_i5
  simp only [zp_U, zp_V, zp_ev_sb, zp_ev_add, zp_ev_mu h1 h1 h1, zp_ev_nx h1 h1 h1, zp_ev_X h1 h1 h1, zp_ev_Z h1 h1 h1, zp_et_p1, zp_ev_x1, zp_ev_y1, zp_ev_k, show zp_c (K := K) 3 = 3 from zp_c_nat 3] at h
  exact ec_sub0 h
theorem ec_i6 {K : Type} [Lean.Grind.CommRing K] {x1 y1 : K} (h1 : y1 * y1 = x1 * x1 * x1 + 7) :
    (y1 + y1) * (y1 + y1) * (y1 + y1) * ec_Y (x1, y1, 1) (x1, y1, 1) = ec_ny (y1 + y1) (3 * (x1 * x1)) x1 x1 y1 * ec_Z (x1, y1, 1) (x1, y1, 1) := by
  have h := zp_zero (x1 := x1) (x2 := x1) (x3 := x1) (y1 := y1) (y2 := y1) (y3 := y1) zp_i6
  simp only [zp_U, zp_V, zp_ev_sb, zp_ev_add, zp_ev_mu h1 h1 h1, zp_ev_ny h1 h1 h1, zp_ev_Y h1 h1 h1, zp_ev_Z h1 h1 h1, zp_et_p1, zp_ev_x1, zp_ev_y1, zp_ev_k, show zp_c (K := K) 3 = 3 from zp_c_nat 3] at h
  exact ec_sub0 h
theorem ec_i7 {K : Type} [Lean.Grind.CommRing K] {x1 y1 : K} (h1 : y1 * y1 = x1 * x1 * x1 + 7) : ec_Z (x1, y1, 1) (x1, y1, 1) = (y1 + y1) * (y1 + y1) * (y1 + y1) := by
  have h := zp_zero (x1 := x1) (x2 := x1) (x3 := x1) (y1 := y1) (y2 := y1) (y3 := y1) zp_i7
  simp only [zp_U, zp_ev_sb, zp_ev_add, zp_ev_mu h1 h1 h1, zp_ev_Z h1 h1 h1, zp_et_p1, zp_ev_x1, zp_ev_y1] at h
  exact ec_sub0 h
theorem ec_i8 {K : Type} [Lean.Grind.CommRing K] {x1 y1 : K} (h1 : y1 * y1 = x1 * x1 * x1 + 7) :
    ec_ny (y1 + y1) (3 * (x1 * x1)) x1 x1 y1 * ec_ny (y1 + y1) (3 * (x1 * x1)) x1 x1 y1 = ec_nx (y1 + y1) (3 * (x1 * x1)) x1 x1 * ec_nx (y1 + y1) (3 * (x1 * x1)) x1 x1 * ec_nx (y1 + y1) (3 * (x1 * x1)) x1 x1 + 7 * ((y1 + y1) * (y1 + y1) * (y1 + y1) * ((y1 + y1) * (y1 + y1) * (y1 + y1))) := by
  have h := zp_zero (x1 := x1) (x2 := x1) (x3 := x1) (y1 := y1) (y2 := y1) (y3 := y1) zp_i8
  simp only [zp_U, zp_V, zp_ev_sb, zp_ev_add, zp_ev_mu h1 h1 h1, zp_ev_ny h1 h1 h1, zp_ev_nx h1 h1 h1, zp_ev_x1, zp_ev_y1, zp_ev_k, show zp_c (K := K) 7 = 7 from zp_c_nat 7, show zp_c (K := K) 3 = 3 from zp_c_nat 3] at h
  exact ec_sub0 h
theorem ec_i9 {K : Type} [Lean.Grind.CommRing K] {x1 y1 : K} (h1 : y1 * y1 = x1 * x1 * x1 + 7) : ec_Y (x1, y1, 1) (x1, -y1, 1) = ec_ny (y1 + y1) (3 * (x1 * x1)) x1 x1 y1 := by
  have h := zp_zero (x1 := x1) (x2 := x1) (x3 := x1) (y1 := y1) (y2 := y1) (y3 := y1) zp_i9
  rw [zp_ev_sb, zp_ev_Y h1 h1 h1, zp_ev_ny h1 h1 h1, zp_et_p1] at h
  simp only [zp_et, zp_U, zp_V, zp_ev_ng, zp_ev_add, zp_ev_mu h1 h1 h1, zp_ev_x1, zp_ev_y1, zp_ev_k, zp_c_1, show zp_c (K := K) 3 = 3 from zp_c_nat 3] at h
  exact ec_sub0 h
end
end
section
/-! The two ways to add three points, as polynomials written out. -/
def zp_mb : Nat → zp_P → zp_P → zp_P
  | 0, p, q => zp_mr p q
  | n + 1, p, q => zp_add (zp_mb n (p.take (p.length / 2)) q) (zp_mb n (p.drop (p.length / 2)) q)
def zp_mv (n : Nat) (p q : zp_P) : zp_P := zp_rd zp_h3 zp_b3 zp_c3 (zp_rd zp_h2 zp_b2 zp_c2 (zp_rd zp_h1 zp_b1 zp_c1 (zp_mb n p q)))
theorem zp_ev_app {K : Type} [Lean.Grind.CommRing K] (x1 x2 x3 y1 y2 y3 : K) (p q : zp_P) : zp_ev x1 x2 x3 y1 y2 y3 (p ++ q) = zp_ev x1 x2 x3 y1 y2 y3 p + zp_ev x1 x2 x3 y1 y2 y3 q := by
  induction p with
  | nil => simp only [List.nil_append, zp_ev]; grind
  | cons t p ih => simp only [List.cons_append, zp_ev, ih]; grind
theorem zp_ev_mb {K : Type} [Lean.Grind.CommRing K] (x1 x2 x3 y1 y2 y3 : K) (n : Nat) (p q : zp_P) : zp_ev x1 x2 x3 y1 y2 y3 (zp_mb n p q) = zp_ev x1 x2 x3 y1 y2 y3 p * zp_ev x1 x2 x3 y1 y2 y3 q := by
  induction n generalizing p with
  | zero => exact zp_ev_mr x1 x2 x3 y1 y2 y3 p q
  | succ n ih =>
    simp only [zp_mb, zp_ev_add, ih]
    have h := zp_ev_app x1 x2 x3 y1 y2 y3 (p.take (p.length / 2)) (p.drop (p.length / 2))
    rw [List.take_append_drop] at h
    rw [h]
    grind
theorem zp_ev_mv {K : Type} [Lean.Grind.CommRing K] {x1 x2 x3 y1 y2 y3 : K} (h1 : y1 * y1 = x1 * x1 * x1 + 7) (h2 : y2 * y2 = x2 * x2 * x2 + 7) (h3 : y3 * y3 = x3 * x3 * x3 + 7) (n : Nat) (p q : zp_P) :
    zp_ev x1 x2 x3 y1 y2 y3 (zp_mv n p q) = zp_ev x1 x2 x3 y1 y2 y3 p * zp_ev x1 x2 x3 y1 y2 y3 q := by
  have h : ∀ z : zp_P, zp_ev x1 x2 x3 y1 y2 y3 (zp_rd zp_h3 zp_b3 zp_c3 (zp_rd zp_h2 zp_b2 zp_c2 (zp_rd zp_h1 zp_b1 zp_c1 z))) = zp_ev x1 x2 x3 y1 y2 y3 z := by
    intro z
    rw [zp_ev_rd, zp_ev_rd, zp_ev_rd]
    · intro k hk
      simp only [zp_mo, zp_b1, zp_c1]
      rw [zp_pw y1 hk, h1, zp_pw3]
      grind
    · intro k hk
      simp only [zp_mo, zp_b2, zp_c2]
      rw [zp_pw y2 hk, h2, zp_pw3]
      grind
    · intro k hk
      simp only [zp_mo, zp_b3, zp_c3]
      rw [zp_pw y3 hk, h3, zp_pw3]
      grind
  unfold zp_mv
  rw [h, zp_ev_mb]
def zl_U1 : zp_P := [((3, 1, 0, 0, 1, 0), 1), ((0, 1, 0, 0, 1, 0), (-14)), ((1, 0, 0, 0, 1, 0), (-42)), ((1, 3, 0, 1, 0, 0), 1), ((0, 1, 0, 1, 0, 0), (-42)), ((1, 0, 0, 1, 0, 0), (-14))]
def zl_U2 : zp_P := [((3, 3, 0, 0, 0, 0), 1), ((0, 3, 0, 0, 0, 0), 7), ((1, 2, 0, 0, 0, 0), 63), ((2, 1, 0, 0, 0, 0), 63), ((3, 0, 0, 0, 0, 0), 7), ((0, 0, 0, 0, 0, 0), (-392))]
def zl_U3 : zp_P := [((2, 1, 0, 0, 1, 0), 3), ((3, 0, 0, 0, 1, 0), 1), ((0, 0, 0, 0, 1, 0), 28), ((0, 3, 0, 1, 0, 0), 1), ((1, 2, 0, 1, 0, 0), 3), ((0, 0, 0, 1, 0, 0), 28)]
def zl_V1 : zp_P := [((0, 3, 1, 0, 0, 1), 1), ((0, 0, 1, 0, 0, 1), (-14)), ((0, 1, 0, 0, 0, 1), (-42)), ((0, 1, 3, 0, 1, 0), 1), ((0, 0, 1, 0, 1, 0), (-42)), ((0, 1, 0, 0, 1, 0), (-14))]
def zl_V2 : zp_P := [((0, 3, 3, 0, 0, 0), 1), ((0, 0, 3, 0, 0, 0), 7), ((0, 1, 2, 0, 0, 0), 63), ((0, 2, 1, 0, 0, 0), 63), ((0, 3, 0, 0, 0, 0), 7), ((0, 0, 0, 0, 0, 0), (-392))]
def zl_V3 : zp_P := [((0, 2, 1, 0, 0, 1), 3), ((0, 3, 0, 0, 0, 1), 1), ((0, 0, 0, 0, 0, 1), 28), ((0, 0, 3, 0, 1, 0), 1), ((0, 1, 2, 0, 1, 0), 3), ((0, 0, 0, 0, 1, 0), 28)]
def zl_L1 : zp_P := [((2, 4, 1, 1, 1, 1), (-126)), ((3, 3, 1, 1, 1, 1), (-420)), ((0, 3, 1, 1, 1, 1), (-1176)), ((4, 2, 1, 1, 1, 1), (-126)), ((1, 2, 1, 1, 1, 1), (-3528)), ((2, 1, 1, 1, 1, 1), (-3528)), ((3, 0, 1, 1, 1, 1), (-1176)), ((0, 0, 1, 1, 1, 1), (-32928)), ((3, 4, 0, 1, 1, 1), (-168)), ((0, 4, 0, 1, 1, 1), 588), ((4, 3, 0, 1, 1, 1), (-168)), ((1, 3, 0, 1, 1, 1), 2352), ((2, 2, 0, 1, 1, 1), 10584), ((3, 1, 0, 1, 1, 1), 2352), ((0, 1, 0, 1, 1, 1), 65856), ((4, 0, 0, 1, 1, 1), 588), ((1, 0, 0, 1, 1, 1), 65856), ((6, 6, 1, 0, 0, 1), 1), ((3, 6, 1, 0, 0, 1), (-7)), ((0, 6, 1, 0, 0, 1), (-98)), ((4, 5, 1, 0, 0, 1), (-189)), ((5, 4, 1, 0, 0, 1), (-189)), ((6, 3, 1, 0, 0, 1), (-7)), ((3, 3, 1, 0, 0, 1), 4900), ((0, 3, 1, 0, 0, 1), (-30184)), ((1, 2, 1, 0, 0, 1), (-74088)), ((2, 1, 1, 0, 0, 1), (-74088)), ((6, 0, 1, 0, 0, 1), (-98)), ((3, 0, 1, 0, 0, 1), (-30184)), ((0, 0, 1, 0, 0, 1), (-76832)), ((4, 6, 0, 0, 0, 1), (-42)), ((1, 6, 0, 0, 0, 1), (-294)), ((5, 5, 0, 0, 0, 1), (-252)), ((2, 5, 0, 0, 0, 1), 882), ((6, 4, 0, 0, 0, 1), (-42)), ((3, 4, 0, 0, 0, 1), 6468), ((0, 4, 0, 0, 0, 1), 28812), ((4, 3, 0, 0, 0, 1), 6468), ((1, 3, 0, 0, 0, 1), 82320), ((5, 2, 0, 0, 0, 1), 882), ((2, 2, 0, 0, 0, 1), 24696), ((6, 1, 0, 0, 0, 1), (-294)), ((3, 1, 0, 0, 0, 1), 82320), ((0, 1, 0, 0, 0, 1), 460992), ((4, 0, 0, 0, 0, 1), 28812), ((1, 0, 0, 0, 0, 1), 460992), ((6, 4, 3, 0, 1, 0), 1), ((3, 4, 3, 0, 1, 0), (-7)), ((0, 4, 3, 0, 1, 0), (-98)), ((4, 3, 3, 0, 1, 0), 21), ((1, 3, 3, 0, 1, 0), (-1176)), ((5, 2, 3, 0, 1, 0), 63), ((2, 2, 3, 0, 1, 0), (-3528)), ((6, 1, 3, 0, 1, 0), 7), ((3, 1, 3, 0, 1, 0), (-3136)), ((0, 1, 3, 0, 1, 0), 5488), ((4, 0, 3, 0, 1, 0), (-294)), ((1, 0, 3, 0, 1, 0), 16464), ((5, 4, 1, 0, 1, 0), (-126)), ((2, 4, 1, 0, 1, 0), (-882)), ((6, 3, 1, 0, 1, 0), (-42)), ((3, 3, 1, 0, 1, 0), (-9408)), ((0, 3, 1, 0, 1, 0), (-8232)), ((4, 2, 1, 0, 1, 0), (-10584)), ((1, 2, 1, 0, 1, 0), (-74088)), ((5, 1, 1, 0, 1, 0), (-3528)), ((2, 1, 1, 0, 1, 0), (-24696)), ((6, 0, 1, 0, 1, 0), (-294)), ((3, 0, 1, 0, 1, 0), 8232), ((0, 0, 1, 0, 1, 0), 460992), ((6, 4, 0, 0, 1, 0), (-14)), ((3, 4, 0, 0, 1, 0), 98), ((0, 4, 0, 0, 1, 0), 1372), ((4, 3, 0, 0, 1, 0), (-294)), ((1, 3, 0, 0, 1, 0), 16464), ((5, 2, 0, 0, 1, 0), (-882)), ((2, 2, 0, 0, 1, 0), 49392), ((6, 1, 0, 0, 1, 0), (-98)), ((3, 1, 0, 0, 1, 0), 43904), ((0, 1, 0, 0, 1, 0), (-76832)), ((4, 0, 0, 0, 1, 0), 4116), ((1, 0, 0, 0, 1, 0), (-230496)), ((4, 6, 3, 1, 0, 0), 1), ((1, 6, 3, 1, 0, 0), 7), ((2, 5, 3, 1, 0, 0), 63), ((3, 4, 3, 1, 0, 0), 21), ((0, 4, 3, 1, 0, 0), (-294)), ((4, 3, 3, 1, 0, 0), (-7)), ((1, 3, 3, 1, 0, 0), (-3136)), ((2, 2, 3, 1, 0, 0), (-3528)), ((3, 1, 3, 1, 0, 0), (-1176)), ((0, 1, 3, 1, 0, 0), 16464), ((4, 0, 3, 1, 0, 0), (-98)), ((1, 0, 3, 1, 0, 0), 5488), ((3, 6, 1, 1, 0, 0), (-42)), ((0, 6, 1, 1, 0, 0), (-294)), ((4, 5, 1, 1, 0, 0), (-126)), ((1, 5, 1, 1, 0, 0), (-3528)), ((2, 4, 1, 1, 0, 0), (-10584)), ((3, 3, 1, 1, 0, 0), (-9408)), ((0, 3, 1, 1, 0, 0), 8232), ((4, 2, 1, 1, 0, 0), (-882)), ((1, 2, 1, 1, 0, 0), (-24696)), ((2, 1, 1, 1, 0, 0), (-74088)), ((3, 0, 1, 1, 0, 0), (-8232)), ((0, 0, 1, 1, 0, 0), 460992), ((4, 6, 0, 1, 0, 0), (-14)), ((1, 6, 0, 1, 0, 0), (-98)), ((2, 5, 0, 1, 0, 0), (-882)), ((3, 4, 0, 1, 0, 0), (-294)), ((0, 4, 0, 1, 0, 0), 4116), ((4, 3, 0, 1, 0, 0), 98), ((1, 3, 0, 1, 0, 0), 43904), ((2, 2, 0, 1, 0, 0), 49392), ((3, 1, 0, 1, 0, 0), 16464), ((0, 1, 0, 1, 0, 0), (-230496)), ((4, 0, 0, 1, 0, 0), 1372), ((1, 0, 0, 1, 0, 0), (-76832))]
def zl_L2 : zp_P := [((3, 4, 2, 1, 1, 0), 252), ((0, 4, 2, 1, 1, 0), (-882)), ((4, 3, 2, 1, 1, 0), 252), ((1, 3, 2, 1, 1, 0), (-3528)), ((2, 2, 2, 1, 1, 0), (-15876)), ((3, 1, 2, 1, 1, 0), (-3528)), ((0, 1, 2, 1, 1, 0), (-98784)), ((4, 0, 2, 1, 1, 0), (-882)), ((1, 0, 2, 1, 1, 0), (-98784)), ((4, 4, 1, 1, 1, 0), 126), ((1, 4, 1, 1, 1, 0), (-1764)), ((2, 3, 1, 1, 1, 0), (-5292)), ((3, 2, 1, 1, 1, 0), (-5292)), ((0, 2, 1, 1, 1, 0), 74088), ((4, 1, 1, 1, 1, 0), (-1764)), ((1, 1, 1, 1, 1, 0), 246960), ((2, 0, 1, 1, 1, 0), 74088), ((2, 4, 0, 1, 1, 0), (-2646)), ((3, 3, 0, 1, 1, 0), (-8820)), ((0, 3, 0, 1, 1, 0), (-24696)), ((4, 2, 0, 1, 1, 0), (-2646)), ((1, 2, 0, 1, 1, 0), (-74088)), ((2, 1, 0, 1, 1, 0), (-74088)), ((3, 0, 0, 1, 1, 0), (-24696)), ((0, 0, 0, 1, 1, 0), (-691488)), ((6, 6, 3, 0, 0, 0), 1), ((3, 6, 3, 0, 0, 0), 14), ((0, 6, 3, 0, 0, 0), 49), ((4, 5, 3, 0, 0, 0), 126), ((1, 5, 3, 0, 0, 0), 882), ((5, 4, 3, 0, 0, 0), 126), ((2, 4, 3, 0, 0, 0), 4851), ((6, 3, 3, 0, 0, 0), 14), ((3, 3, 3, 0, 0, 0), 7252), ((0, 3, 3, 0, 0, 0), (-5488)), ((4, 2, 3, 0, 0, 0), 4851), ((1, 2, 3, 0, 0, 0), (-49392)), ((5, 1, 3, 0, 0, 0), 882), ((2, 1, 3, 0, 0, 0), (-49392)), ((6, 0, 3, 0, 0, 0), 49), ((3, 0, 3, 0, 0, 0), (-5488)), ((0, 0, 3, 0, 0, 0), 153664), ((4, 6, 2, 0, 0, 0), 63), ((1, 6, 2, 0, 0, 0), 441), ((5, 5, 2, 0, 0, 0), 378), ((2, 5, 2, 0, 0, 0), (-1323)), ((6, 4, 2, 0, 0, 0), 63), ((3, 4, 2, 0, 0, 0), (-9702)), ((0, 4, 2, 0, 0, 0), (-43218)), ((4, 3, 2, 0, 0, 0), (-9702)), ((1, 3, 2, 0, 0, 0), (-123480)), ((5, 2, 2, 0, 0, 0), (-1323)), ((2, 2, 2, 0, 0, 0), (-37044)), ((6, 1, 2, 0, 0, 0), 441), ((3, 1, 2, 0, 0, 0), (-123480)), ((0, 1, 2, 0, 0, 0), (-691488)), ((4, 0, 2, 0, 0, 0), (-43218)), ((1, 0, 2, 0, 0, 0), (-691488)), ((5, 6, 1, 0, 0, 0), 63), ((2, 6, 1, 0, 0, 0), 441), ((6, 5, 1, 0, 0, 0), 63), ((3, 5, 1, 0, 0, 0), (-1764)), ((0, 5, 1, 0, 0, 0), 12348), ((4, 4, 1, 0, 0, 0), (-10584)), ((1, 4, 1, 0, 0, 0), 37044), ((5, 3, 1, 0, 0, 0), (-1764)), ((2, 3, 1, 0, 0, 0), 98784), ((6, 2, 1, 0, 0, 0), 441), ((3, 2, 1, 0, 0, 0), 98784), ((0, 2, 1, 0, 0, 0), 864360), ((4, 1, 1, 0, 0, 0), 37044), ((1, 1, 1, 0, 0, 0), 1037232), ((5, 0, 1, 0, 0, 0), 12348), ((2, 0, 1, 0, 0, 0), 864360), ((6, 6, 0, 0, 0, 0), 7), ((3, 6, 0, 0, 0, 0), (-343)), ((0, 6, 0, 0, 0, 0), (-2744)), ((4, 5, 0, 0, 0, 0), (-5733)), ((1, 5, 0, 0, 0, 0), (-12348)), ((5, 4, 0, 0, 0, 0), (-5733)), ((2, 4, 0, 0, 0, 0), (-67914)), ((6, 3, 0, 0, 0, 0), (-343)), ((3, 3, 0, 0, 0, 0), 1372), ((0, 3, 0, 0, 0, 0), (-557032)), ((4, 2, 0, 0, 0, 0), (-67914)), ((1, 2, 0, 0, 0, 0), (-864360)), ((5, 1, 0, 0, 0, 0), (-12348)), ((2, 1, 0, 0, 0, 0), (-864360)), ((6, 0, 0, 0, 0, 0), (-2744)), ((3, 0, 0, 0, 0, 0), (-557032)), ((0, 0, 0, 0, 0, 0), (-3764768))]
def zl_L3 : zp_P := [((4, 4, 1, 1, 1, 1), 6), ((1, 4, 1, 1, 1, 1), (-84)), ((2, 3, 1, 1, 1, 1), (-252)), ((3, 2, 1, 1, 1, 1), (-252)), ((0, 2, 1, 1, 1, 1), 3528), ((4, 1, 1, 1, 1, 1), (-84)), ((1, 1, 1, 1, 1, 1), 11760), ((2, 0, 1, 1, 1, 1), 3528), ((2, 4, 0, 1, 1, 1), 126), ((3, 3, 0, 1, 1, 1), 420), ((0, 3, 0, 1, 1, 1), 1176), ((4, 2, 0, 1, 1, 1), 126), ((1, 2, 0, 1, 1, 1), 3528), ((2, 1, 0, 1, 1, 1), 3528), ((3, 0, 0, 1, 1, 1), 1176), ((0, 0, 0, 1, 1, 1), 32928), ((5, 6, 1, 0, 0, 1), 3), ((2, 6, 1, 0, 0, 1), 21), ((6, 5, 1, 0, 0, 1), 3), ((3, 5, 1, 0, 0, 1), (-84)), ((0, 5, 1, 0, 0, 1), 588), ((4, 4, 1, 0, 0, 1), (-504)), ((1, 4, 1, 0, 0, 1), 1764), ((5, 3, 1, 0, 0, 1), (-84)), ((2, 3, 1, 0, 0, 1), 4704), ((6, 2, 1, 0, 0, 1), 21), ((3, 2, 1, 0, 0, 1), 4704), ((0, 2, 1, 0, 0, 1), 41160), ((4, 1, 1, 0, 0, 1), 1764), ((1, 1, 1, 0, 0, 1), 49392), ((5, 0, 1, 0, 0, 1), 588), ((2, 0, 1, 0, 0, 1), 41160), ((6, 6, 0, 0, 0, 1), 1), ((3, 6, 0, 0, 0, 1), 35), ((0, 6, 0, 0, 0, 1), 196), ((4, 5, 0, 0, 0, 1), 441), ((1, 5, 0, 0, 0, 1), 1764), ((5, 4, 0, 0, 0, 1), 441), ((2, 4, 0, 0, 0, 1), 9702), ((6, 3, 0, 0, 0, 1), 35), ((3, 3, 0, 0, 0, 1), 9604), ((0, 3, 0, 0, 0, 1), 19208), ((4, 2, 0, 0, 0, 1), 9702), ((1, 2, 0, 0, 0, 1), (-24696)), ((5, 1, 0, 0, 0, 1), 1764), ((2, 1, 0, 0, 0, 1), (-24696)), ((6, 0, 0, 0, 0, 1), 196), ((3, 0, 0, 0, 0, 1), 19208), ((0, 0, 0, 0, 0, 1), 384160), ((5, 4, 3, 0, 1, 0), 3), ((2, 4, 3, 0, 1, 0), 21), ((6, 3, 3, 0, 1, 0), 1), ((3, 3, 3, 0, 1, 0), 224), ((0, 3, 3, 0, 1, 0), 196), ((4, 2, 3, 0, 1, 0), 252), ((1, 2, 3, 0, 1, 0), 1764), ((5, 1, 3, 0, 1, 0), 84), ((2, 1, 3, 0, 1, 0), 588), ((6, 0, 3, 0, 1, 0), 7), ((3, 0, 3, 0, 1, 0), (-196)), ((0, 0, 3, 0, 1, 0), (-10976)), ((6, 4, 2, 0, 1, 0), 3), ((3, 4, 2, 0, 1, 0), (-21)), ((0, 4, 2, 0, 1, 0), (-294)), ((4, 3, 2, 0, 1, 0), 63), ((1, 3, 2, 0, 1, 0), (-3528)), ((5, 2, 2, 0, 1, 0), 189), ((2, 2, 2, 0, 1, 0), (-10584)), ((6, 1, 2, 0, 1, 0), 21), ((3, 1, 2, 0, 1, 0), (-9408)), ((0, 1, 2, 0, 1, 0), 16464), ((4, 0, 2, 0, 1, 0), (-882)), ((1, 0, 2, 0, 1, 0), 49392), ((5, 4, 0, 0, 1, 0), 84), ((2, 4, 0, 0, 1, 0), 588), ((6, 3, 0, 0, 1, 0), 28), ((3, 3, 0, 0, 1, 0), 6272), ((0, 3, 0, 0, 1, 0), 5488), ((4, 2, 0, 0, 1, 0), 7056), ((1, 2, 0, 0, 1, 0), 49392), ((5, 1, 0, 0, 1, 0), 2352), ((2, 1, 0, 0, 1, 0), 16464), ((6, 0, 0, 0, 1, 0), 196), ((3, 0, 0, 0, 1, 0), (-5488)), ((0, 0, 0, 0, 1, 0), (-307328)), ((3, 6, 3, 1, 0, 0), 1), ((0, 6, 3, 1, 0, 0), 7), ((4, 5, 3, 1, 0, 0), 3), ((1, 5, 3, 1, 0, 0), 84), ((2, 4, 3, 1, 0, 0), 252), ((3, 3, 3, 1, 0, 0), 224), ((0, 3, 3, 1, 0, 0), (-196)), ((4, 2, 3, 1, 0, 0), 21), ((1, 2, 3, 1, 0, 0), 588), ((2, 1, 3, 1, 0, 0), 1764), ((3, 0, 3, 1, 0, 0), 196), ((0, 0, 3, 1, 0, 0), (-10976)), ((4, 6, 2, 1, 0, 0), 3), ((1, 6, 2, 1, 0, 0), 21), ((2, 5, 2, 1, 0, 0), 189), ((3, 4, 2, 1, 0, 0), 63), ((0, 4, 2, 1, 0, 0), (-882)), ((4, 3, 2, 1, 0, 0), (-21)), ((1, 3, 2, 1, 0, 0), (-9408)), ((2, 2, 2, 1, 0, 0), (-10584)), ((3, 1, 2, 1, 0, 0), (-3528)), ((0, 1, 2, 1, 0, 0), 49392), ((4, 0, 2, 1, 0, 0), (-294)), ((1, 0, 2, 1, 0, 0), 16464), ((3, 6, 0, 1, 0, 0), 28), ((0, 6, 0, 1, 0, 0), 196), ((4, 5, 0, 1, 0, 0), 84), ((1, 5, 0, 1, 0, 0), 2352), ((2, 4, 0, 1, 0, 0), 7056), ((3, 3, 0, 1, 0, 0), 6272), ((0, 3, 0, 1, 0, 0), (-5488)), ((4, 2, 0, 1, 0, 0), 588), ((1, 2, 0, 1, 0, 0), 16464), ((2, 1, 0, 1, 0, 0), 49392), ((3, 0, 0, 1, 0, 0), 5488), ((0, 0, 0, 1, 0, 0), (-307328))]
def zl_R1 : zp_P := [((0, 3, 4, 1, 1, 1), (-168)), ((1, 2, 4, 1, 1, 1), (-126)), ((0, 0, 4, 1, 1, 1), 588), ((0, 4, 3, 1, 1, 1), (-168)), ((1, 3, 3, 1, 1, 1), (-420)), ((0, 1, 3, 1, 1, 1), 2352), ((1, 0, 3, 1, 1, 1), (-1176)), ((1, 4, 2, 1, 1, 1), (-126)), ((0, 2, 2, 1, 1, 1), 10584), ((1, 1, 2, 1, 1, 1), (-3528)), ((0, 3, 1, 1, 1, 1), 2352), ((1, 2, 1, 1, 1, 1), (-3528)), ((0, 0, 1, 1, 1, 1), 65856), ((0, 4, 0, 1, 1, 1), 588), ((1, 3, 0, 1, 1, 1), (-1176)), ((0, 1, 0, 1, 1, 1), 65856), ((1, 0, 0, 1, 1, 1), (-32928)), ((3, 6, 4, 0, 0, 1), 1), ((0, 6, 4, 0, 0, 1), (-14)), ((1, 5, 4, 0, 0, 1), (-126)), ((3, 3, 4, 0, 0, 1), (-7)), ((0, 3, 4, 0, 0, 1), 98), ((1, 2, 4, 0, 0, 1), (-882)), ((3, 0, 4, 0, 0, 1), (-98)), ((0, 0, 4, 0, 0, 1), 1372), ((1, 6, 3, 0, 0, 1), (-42)), ((3, 4, 3, 0, 0, 1), 21), ((0, 4, 3, 0, 0, 1), (-294)), ((1, 3, 3, 0, 0, 1), (-9408)), ((3, 1, 3, 0, 0, 1), (-1176)), ((0, 1, 3, 0, 0, 1), 16464), ((1, 0, 3, 0, 0, 1), (-8232)), ((3, 5, 2, 0, 0, 1), 63), ((0, 5, 2, 0, 0, 1), (-882)), ((1, 4, 2, 0, 0, 1), (-10584)), ((3, 2, 2, 0, 0, 1), (-3528)), ((0, 2, 2, 0, 0, 1), 49392), ((1, 1, 2, 0, 0, 1), (-74088)), ((3, 6, 1, 0, 0, 1), 7), ((0, 6, 1, 0, 0, 1), (-98)), ((1, 5, 1, 0, 0, 1), (-3528)), ((3, 3, 1, 0, 0, 1), (-3136)), ((0, 3, 1, 0, 0, 1), 43904), ((1, 2, 1, 0, 0, 1), (-24696)), ((3, 0, 1, 0, 0, 1), 5488), ((0, 0, 1, 0, 0, 1), (-76832)), ((1, 6, 0, 0, 0, 1), (-294)), ((3, 4, 0, 0, 0, 1), (-294)), ((0, 4, 0, 0, 0, 1), 4116), ((1, 3, 0, 0, 0, 1), 8232), ((3, 1, 0, 0, 0, 1), 16464), ((0, 1, 0, 0, 0, 1), (-230496)), ((1, 0, 0, 0, 0, 1), 460992), ((3, 4, 6, 0, 1, 0), 1), ((0, 4, 6, 0, 1, 0), (-14)), ((1, 3, 6, 0, 1, 0), (-42)), ((3, 1, 6, 0, 1, 0), 7), ((0, 1, 6, 0, 1, 0), (-98)), ((1, 0, 6, 0, 1, 0), (-294)), ((1, 4, 5, 0, 1, 0), (-126)), ((3, 2, 5, 0, 1, 0), 63), ((0, 2, 5, 0, 1, 0), (-882)), ((1, 1, 5, 0, 1, 0), (-3528)), ((3, 3, 4, 0, 1, 0), 21), ((0, 3, 4, 0, 1, 0), (-294)), ((1, 2, 4, 0, 1, 0), (-10584)), ((3, 0, 4, 0, 1, 0), (-294)), ((0, 0, 4, 0, 1, 0), 4116), ((3, 4, 3, 0, 1, 0), (-7)), ((0, 4, 3, 0, 1, 0), 98), ((1, 3, 3, 0, 1, 0), (-9408)), ((3, 1, 3, 0, 1, 0), (-3136)), ((0, 1, 3, 0, 1, 0), 43904), ((1, 0, 3, 0, 1, 0), 8232), ((1, 4, 2, 0, 1, 0), (-882)), ((3, 2, 2, 0, 1, 0), (-3528)), ((0, 2, 2, 0, 1, 0), 49392), ((1, 1, 2, 0, 1, 0), (-24696)), ((3, 3, 1, 0, 1, 0), (-1176)), ((0, 3, 1, 0, 1, 0), 16464), ((1, 2, 1, 0, 1, 0), (-74088)), ((3, 0, 1, 0, 1, 0), 16464), ((0, 0, 1, 0, 1, 0), (-230496)), ((3, 4, 0, 0, 1, 0), (-98)), ((0, 4, 0, 0, 1, 0), 1372), ((1, 3, 0, 0, 1, 0), (-8232)), ((3, 1, 0, 0, 1, 0), 5488), ((0, 1, 0, 0, 1, 0), (-76832)), ((1, 0, 0, 0, 1, 0), 460992), ((1, 6, 6, 1, 0, 0), 1), ((0, 4, 6, 1, 0, 0), (-42)), ((1, 3, 6, 1, 0, 0), (-7)), ((0, 1, 6, 1, 0, 0), (-294)), ((1, 0, 6, 1, 0, 0), (-98)), ((0, 5, 5, 1, 0, 0), (-252)), ((1, 4, 5, 1, 0, 0), (-189)), ((0, 2, 5, 1, 0, 0), 882), ((0, 6, 4, 1, 0, 0), (-42)), ((1, 5, 4, 1, 0, 0), (-189)), ((0, 3, 4, 1, 0, 0), 6468), ((0, 0, 4, 1, 0, 0), 28812), ((1, 6, 3, 1, 0, 0), (-7)), ((0, 4, 3, 1, 0, 0), 6468), ((1, 3, 3, 1, 0, 0), 4900), ((0, 1, 3, 1, 0, 0), 82320), ((1, 0, 3, 1, 0, 0), (-30184)), ((0, 5, 2, 1, 0, 0), 882), ((0, 2, 2, 1, 0, 0), 24696), ((1, 1, 2, 1, 0, 0), (-74088)), ((0, 6, 1, 1, 0, 0), (-294)), ((0, 3, 1, 1, 0, 0), 82320), ((1, 2, 1, 1, 0, 0), (-74088)), ((0, 0, 1, 1, 0, 0), 460992), ((1, 6, 0, 1, 0, 0), (-98)), ((0, 4, 0, 1, 0, 0), 28812), ((1, 3, 0, 1, 0, 0), (-30184)), ((0, 1, 0, 1, 0, 0), 460992), ((1, 0, 0, 1, 0, 0), (-76832))]
def zl_R2 : zp_P := [((1, 4, 4, 0, 1, 1), 126), ((2, 3, 4, 0, 1, 1), 252), ((0, 2, 4, 0, 1, 1), (-2646)), ((1, 1, 4, 0, 1, 1), (-1764)), ((2, 0, 4, 0, 1, 1), (-882)), ((2, 4, 3, 0, 1, 1), 252), ((0, 3, 3, 0, 1, 1), (-8820)), ((1, 2, 3, 0, 1, 1), (-5292)), ((2, 1, 3, 0, 1, 1), (-3528)), ((0, 0, 3, 0, 1, 1), (-24696)), ((0, 4, 2, 0, 1, 1), (-2646)), ((1, 3, 2, 0, 1, 1), (-5292)), ((2, 2, 2, 0, 1, 1), (-15876)), ((0, 1, 2, 0, 1, 1), (-74088)), ((1, 0, 2, 0, 1, 1), 74088), ((1, 4, 1, 0, 1, 1), (-1764)), ((2, 3, 1, 0, 1, 1), (-3528)), ((0, 2, 1, 0, 1, 1), (-74088)), ((1, 1, 1, 0, 1, 1), 246960), ((2, 0, 1, 0, 1, 1), (-98784)), ((2, 4, 0, 0, 1, 1), (-882)), ((0, 3, 0, 0, 1, 1), (-24696)), ((1, 2, 0, 0, 1, 1), 74088), ((2, 1, 0, 0, 1, 1), (-98784)), ((0, 0, 0, 0, 1, 1), (-691488)), ((3, 6, 6, 0, 0, 0), 1), ((0, 6, 6, 0, 0, 0), 7), ((1, 5, 6, 0, 0, 0), 63), ((2, 4, 6, 0, 0, 0), 63), ((3, 3, 6, 0, 0, 0), 14), ((0, 3, 6, 0, 0, 0), (-343)), ((1, 2, 6, 0, 0, 0), 441), ((2, 1, 6, 0, 0, 0), 441), ((3, 0, 6, 0, 0, 0), 49), ((0, 0, 6, 0, 0, 0), (-2744)), ((1, 6, 5, 0, 0, 0), 63), ((2, 5, 5, 0, 0, 0), 378), ((3, 4, 5, 0, 0, 0), 126), ((0, 4, 5, 0, 0, 0), (-5733)), ((1, 3, 5, 0, 0, 0), (-1764)), ((2, 2, 5, 0, 0, 0), (-1323)), ((3, 1, 5, 0, 0, 0), 882), ((0, 1, 5, 0, 0, 0), (-12348)), ((1, 0, 5, 0, 0, 0), 12348), ((2, 6, 4, 0, 0, 0), 63), ((3, 5, 4, 0, 0, 0), 126), ((0, 5, 4, 0, 0, 0), (-5733)), ((1, 4, 4, 0, 0, 0), (-10584)), ((2, 3, 4, 0, 0, 0), (-9702)), ((3, 2, 4, 0, 0, 0), 4851), ((0, 2, 4, 0, 0, 0), (-67914)), ((1, 1, 4, 0, 0, 0), 37044), ((2, 0, 4, 0, 0, 0), (-43218)), ((3, 6, 3, 0, 0, 0), 14), ((0, 6, 3, 0, 0, 0), (-343)), ((1, 5, 3, 0, 0, 0), (-1764)), ((2, 4, 3, 0, 0, 0), (-9702)), ((3, 3, 3, 0, 0, 0), 7252), ((0, 3, 3, 0, 0, 0), 1372), ((1, 2, 3, 0, 0, 0), 98784), ((2, 1, 3, 0, 0, 0), (-123480)), ((3, 0, 3, 0, 0, 0), (-5488)), ((0, 0, 3, 0, 0, 0), (-557032)), ((1, 6, 2, 0, 0, 0), 441), ((2, 5, 2, 0, 0, 0), (-1323)), ((3, 4, 2, 0, 0, 0), 4851), ((0, 4, 2, 0, 0, 0), (-67914)), ((1, 3, 2, 0, 0, 0), 98784), ((2, 2, 2, 0, 0, 0), (-37044)), ((3, 1, 2, 0, 0, 0), (-49392)), ((0, 1, 2, 0, 0, 0), (-864360)), ((1, 0, 2, 0, 0, 0), 864360), ((2, 6, 1, 0, 0, 0), 441), ((3, 5, 1, 0, 0, 0), 882), ((0, 5, 1, 0, 0, 0), (-12348)), ((1, 4, 1, 0, 0, 0), 37044), ((2, 3, 1, 0, 0, 0), (-123480)), ((3, 2, 1, 0, 0, 0), (-49392)), ((0, 2, 1, 0, 0, 0), (-864360)), ((1, 1, 1, 0, 0, 0), 1037232), ((2, 0, 1, 0, 0, 0), (-691488)), ((3, 6, 0, 0, 0, 0), 49), ((0, 6, 0, 0, 0, 0), (-2744)), ((1, 5, 0, 0, 0, 0), 12348), ((2, 4, 0, 0, 0, 0), (-43218)), ((3, 3, 0, 0, 0, 0), (-5488)), ((0, 3, 0, 0, 0, 0), (-557032)), ((1, 2, 0, 0, 0, 0), 864360), ((2, 1, 0, 0, 0, 0), (-691488)), ((3, 0, 0, 0, 0, 0), 153664), ((0, 0, 0, 0, 0, 0), (-3764768))]
def zl_R3 : zp_P := [((1, 4, 4, 1, 1, 1), 6), ((0, 2, 4, 1, 1, 1), 126), ((1, 1, 4, 1, 1, 1), (-84)), ((0, 3, 3, 1, 1, 1), 420), ((1, 2, 3, 1, 1, 1), (-252)), ((0, 0, 3, 1, 1, 1), 1176), ((0, 4, 2, 1, 1, 1), 126), ((1, 3, 2, 1, 1, 1), (-252)), ((0, 1, 2, 1, 1, 1), 3528), ((1, 0, 2, 1, 1, 1), 3528), ((1, 4, 1, 1, 1, 1), (-84)), ((0, 2, 1, 1, 1, 1), 3528), ((1, 1, 1, 1, 1, 1), 11760), ((0, 3, 0, 1, 1, 1), 1176), ((1, 2, 0, 1, 1, 1), 3528), ((0, 0, 0, 1, 1, 1), 32928), ((2, 6, 4, 0, 0, 1), 3), ((3, 5, 4, 0, 0, 1), 3), ((0, 5, 4, 0, 0, 1), 84), ((2, 3, 4, 0, 0, 1), (-21)), ((3, 2, 4, 0, 0, 1), 21), ((0, 2, 4, 0, 0, 1), 588), ((2, 0, 4, 0, 0, 1), (-294)), ((3, 6, 3, 0, 0, 1), 1), ((0, 6, 3, 0, 0, 1), 28), ((2, 4, 3, 0, 0, 1), 63), ((3, 3, 3, 0, 0, 1), 224), ((0, 3, 3, 0, 0, 1), 6272), ((2, 1, 3, 0, 0, 1), (-3528)), ((3, 0, 3, 0, 0, 1), 196), ((0, 0, 3, 0, 0, 1), 5488), ((2, 5, 2, 0, 0, 1), 189), ((3, 4, 2, 0, 0, 1), 252), ((0, 4, 2, 0, 0, 1), 7056), ((2, 2, 2, 0, 0, 1), (-10584)), ((3, 1, 2, 0, 0, 1), 1764), ((0, 1, 2, 0, 0, 1), 49392), ((2, 6, 1, 0, 0, 1), 21), ((3, 5, 1, 0, 0, 1), 84), ((0, 5, 1, 0, 0, 1), 2352), ((2, 3, 1, 0, 0, 1), (-9408)), ((3, 2, 1, 0, 0, 1), 588), ((0, 2, 1, 0, 0, 1), 16464), ((2, 0, 1, 0, 0, 1), 16464), ((3, 6, 0, 0, 0, 1), 7), ((0, 6, 0, 0, 0, 1), 196), ((2, 4, 0, 0, 0, 1), (-882)), ((3, 3, 0, 0, 0, 1), (-196)), ((0, 3, 0, 0, 0, 1), (-5488)), ((2, 1, 0, 0, 0, 1), 49392), ((3, 0, 0, 0, 0, 1), (-10976)), ((0, 0, 0, 0, 0, 1), (-307328)), ((2, 4, 6, 0, 1, 0), 3), ((3, 3, 6, 0, 1, 0), 1), ((0, 3, 6, 0, 1, 0), 28), ((2, 1, 6, 0, 1, 0), 21), ((3, 0, 6, 0, 1, 0), 7), ((0, 0, 6, 0, 1, 0), 196), ((3, 4, 5, 0, 1, 0), 3), ((0, 4, 5, 0, 1, 0), 84), ((2, 2, 5, 0, 1, 0), 189), ((3, 1, 5, 0, 1, 0), 84), ((0, 1, 5, 0, 1, 0), 2352), ((2, 3, 4, 0, 1, 0), 63), ((3, 2, 4, 0, 1, 0), 252), ((0, 2, 4, 0, 1, 0), 7056), ((2, 0, 4, 0, 1, 0), (-882)), ((2, 4, 3, 0, 1, 0), (-21)), ((3, 3, 3, 0, 1, 0), 224), ((0, 3, 3, 0, 1, 0), 6272), ((2, 1, 3, 0, 1, 0), (-9408)), ((3, 0, 3, 0, 1, 0), (-196)), ((0, 0, 3, 0, 1, 0), (-5488)), ((3, 4, 2, 0, 1, 0), 21), ((0, 4, 2, 0, 1, 0), 588), ((2, 2, 2, 0, 1, 0), (-10584)), ((3, 1, 2, 0, 1, 0), 588), ((0, 1, 2, 0, 1, 0), 16464), ((2, 3, 1, 0, 1, 0), (-3528)), ((3, 2, 1, 0, 1, 0), 1764), ((0, 2, 1, 0, 1, 0), 49392), ((2, 0, 1, 0, 1, 0), 49392), ((2, 4, 0, 0, 1, 0), (-294)), ((3, 3, 0, 0, 1, 0), 196), ((0, 3, 0, 0, 1, 0), 5488), ((2, 1, 0, 0, 1, 0), 16464), ((3, 0, 0, 0, 1, 0), (-10976)), ((0, 0, 0, 0, 1, 0), (-307328)), ((0, 6, 6, 1, 0, 0), 1), ((1, 5, 6, 1, 0, 0), 3), ((0, 3, 6, 1, 0, 0), 35), ((1, 2, 6, 1, 0, 0), 21), ((0, 0, 6, 1, 0, 0), 196), ((1, 6, 5, 1, 0, 0), 3), ((0, 4, 5, 1, 0, 0), 441), ((1, 3, 5, 1, 0, 0), (-84)), ((0, 1, 5, 1, 0, 0), 1764), ((1, 0, 5, 1, 0, 0), 588), ((0, 5, 4, 1, 0, 0), 441), ((1, 4, 4, 1, 0, 0), (-504)), ((0, 2, 4, 1, 0, 0), 9702), ((1, 1, 4, 1, 0, 0), 1764), ((0, 6, 3, 1, 0, 0), 35), ((1, 5, 3, 1, 0, 0), (-84)), ((0, 3, 3, 1, 0, 0), 9604), ((1, 2, 3, 1, 0, 0), 4704), ((0, 0, 3, 1, 0, 0), 19208), ((1, 6, 2, 1, 0, 0), 21), ((0, 4, 2, 1, 0, 0), 9702), ((1, 3, 2, 1, 0, 0), 4704), ((0, 1, 2, 1, 0, 0), (-24696)), ((1, 0, 2, 1, 0, 0), 41160), ((0, 5, 1, 1, 0, 0), 1764), ((1, 4, 1, 1, 0, 0), 1764), ((0, 2, 1, 1, 0, 0), (-24696)), ((1, 1, 1, 1, 0, 0), 49392), ((0, 6, 0, 1, 0, 0), 196), ((1, 5, 0, 1, 0, 0), 588), ((0, 3, 0, 1, 0, 0), 19208), ((1, 2, 0, 1, 0, 0), 41160), ((0, 0, 0, 1, 0, 0), 384160)]
set_option maxRecDepth 100000 in
set_option maxHeartbeats 4000000 in
theorem zl_u1 : (zp_sb (zp_X zp_p1 zp_p2) zl_U1).isEmpty = true := by decide +kernel
set_option maxRecDepth 100000 in
set_option maxHeartbeats 4000000 in
theorem zl_v1 : (zp_sb (zp_X zp_p2 zp_p3) zl_V1).isEmpty = true := by decide +kernel
set_option maxRecDepth 100000 in
set_option maxHeartbeats 4000000 in
theorem zl_l1 : (zp_sb (zp_X (zl_U1, zl_U2, zl_U3) zp_p3) zl_L1).isEmpty = true := by decide +kernel
set_option maxRecDepth 100000 in
set_option maxHeartbeats 4000000 in
theorem zl_r1 : (zp_sb (zp_X zp_p1 (zl_V1, zl_V2, zl_V3)) zl_R1).isEmpty = true := by decide +kernel
set_option maxRecDepth 100000 in
set_option maxHeartbeats 4000000 in
theorem zl_u2 : (zp_sb (zp_Y zp_p1 zp_p2) zl_U2).isEmpty = true := by decide +kernel
set_option maxRecDepth 100000 in
set_option maxHeartbeats 4000000 in
theorem zl_v2 : (zp_sb (zp_Y zp_p2 zp_p3) zl_V2).isEmpty = true := by decide +kernel
set_option maxRecDepth 100000 in
set_option maxHeartbeats 4000000 in
theorem zl_l2 : (zp_sb (zp_Y (zl_U1, zl_U2, zl_U3) zp_p3) zl_L2).isEmpty = true := by decide +kernel
set_option maxRecDepth 100000 in
set_option maxHeartbeats 4000000 in
theorem zl_r2 : (zp_sb (zp_Y zp_p1 (zl_V1, zl_V2, zl_V3)) zl_R2).isEmpty = true := by decide +kernel
set_option maxRecDepth 100000 in
set_option maxHeartbeats 4000000 in
theorem zl_u3 : (zp_sb (zp_Z zp_p1 zp_p2) zl_U3).isEmpty = true := by decide +kernel
set_option maxRecDepth 100000 in
set_option maxHeartbeats 4000000 in
theorem zl_v3 : (zp_sb (zp_Z zp_p2 zp_p3) zl_V3).isEmpty = true := by decide +kernel
set_option maxRecDepth 100000 in
set_option maxHeartbeats 4000000 in
theorem zl_l3 : (zp_sb (zp_Z (zl_U1, zl_U2, zl_U3) zp_p3) zl_L3).isEmpty = true := by decide +kernel
set_option maxRecDepth 100000 in
set_option maxHeartbeats 4000000 in
theorem zl_r3 : (zp_sb (zp_Z zp_p1 (zl_V1, zl_V2, zl_V3)) zl_R3).isEmpty = true := by decide +kernel
set_option maxRecDepth 100000 in
set_option maxHeartbeats 4000000 in
theorem zl_as1 : (zp_sb (zp_mv 7 zl_L1 zl_R3) (zp_mv 7 zl_R1 zl_L3)).isEmpty = true := by decide +kernel
set_option maxRecDepth 100000 in
set_option maxHeartbeats 4000000 in
theorem zl_as2 : (zp_sb (zp_mv 7 zl_L2 zl_R3) (zp_mv 7 zl_R2 zl_L3)).isEmpty = true := by decide +kernel
theorem zl_zero {K : Type} [Lean.Grind.CommRing K] {x1 x2 x3 y1 y2 y3 : K} {p q : zp_P} (h : (zp_sb p q).isEmpty = true) : zp_ev x1 x2 x3 y1 y2 y3 p = zp_ev x1 x2 x3 y1 y2 y3 q := by
  have h9 := zp_zero (x1 := x1) (x2 := x2) (x3 := x3) (y1 := y1) (y2 := y2) (y3 := y3) h
  rw [zp_ev_sb] at h9
  exact ec_sub0 h9
theorem zl_U {K : Type} [Lean.Grind.CommRing K] {x1 x2 x3 y1 y2 y3 : K} (h1 : y1 * y1 = x1 * x1 * x1 + 7) (h2 : y2 * y2 = x2 * x2 * x2 + 7) (h3 : y3 * y3 = x3 * x3 * x3 + 7) : zp_et x1 x2 x3 y1 y2 y3 (zl_U1, zl_U2, zl_U3) = ec_C (x1, y1, 1) (x2, y2, 1) := by
  show (zp_ev x1 x2 x3 y1 y2 y3 zl_U1, zp_ev x1 x2 x3 y1 y2 y3 zl_U2, zp_ev x1 x2 x3 y1 y2 y3 zl_U3) = _
  rw [← zl_zero zl_u1, ← zl_zero zl_u2, ← zl_zero zl_u3, zp_ev_X h1 h2 h3, zp_ev_Y h1 h2 h3, zp_ev_Z h1 h2 h3, zp_et_p1, zp_et_p2]
  rfl
theorem zl_V {K : Type} [Lean.Grind.CommRing K] {x1 x2 x3 y1 y2 y3 : K} (h1 : y1 * y1 = x1 * x1 * x1 + 7) (h2 : y2 * y2 = x2 * x2 * x2 + 7) (h3 : y3 * y3 = x3 * x3 * x3 + 7) : zp_et x1 x2 x3 y1 y2 y3 (zl_V1, zl_V2, zl_V3) = ec_C (x2, y2, 1) (x3, y3, 1) := by
  show (zp_ev x1 x2 x3 y1 y2 y3 zl_V1, zp_ev x1 x2 x3 y1 y2 y3 zl_V2, zp_ev x1 x2 x3 y1 y2 y3 zl_V3) = _
  rw [← zl_zero zl_v1, ← zl_zero zl_v2, ← zl_zero zl_v3, zp_ev_X h1 h2 h3, zp_ev_Y h1 h2 h3, zp_ev_Z h1 h2 h3, zp_et_p2, zp_et_p3]
  rfl
theorem zl_LX {K : Type} [Lean.Grind.CommRing K] {x1 x2 x3 y1 y2 y3 : K} (h1 : y1 * y1 = x1 * x1 * x1 + 7) (h2 : y2 * y2 = x2 * x2 * x2 + 7) (h3 : y3 * y3 = x3 * x3 * x3 + 7) : zp_ev x1 x2 x3 y1 y2 y3 zl_L1 = ec_X (ec_C (x1, y1, 1) (x2, y2, 1)) (x3, y3, 1) := by
  rw [← zl_zero zl_l1, zp_ev_X h1 h2 h3, zl_U h1 h2 h3, zp_et_p3]
theorem zl_RX {K : Type} [Lean.Grind.CommRing K] {x1 x2 x3 y1 y2 y3 : K} (h1 : y1 * y1 = x1 * x1 * x1 + 7) (h2 : y2 * y2 = x2 * x2 * x2 + 7) (h3 : y3 * y3 = x3 * x3 * x3 + 7) : zp_ev x1 x2 x3 y1 y2 y3 zl_R1 = ec_X (x1, y1, 1) (ec_C (x2, y2, 1) (x3, y3, 1)) := by
  rw [← zl_zero zl_r1, zp_ev_X h1 h2 h3, zl_V h1 h2 h3, zp_et_p1]
theorem zl_LY {K : Type} [Lean.Grind.CommRing K] {x1 x2 x3 y1 y2 y3 : K} (h1 : y1 * y1 = x1 * x1 * x1 + 7) (h2 : y2 * y2 = x2 * x2 * x2 + 7) (h3 : y3 * y3 = x3 * x3 * x3 + 7) : zp_ev x1 x2 x3 y1 y2 y3 zl_L2 = ec_Y (ec_C (x1, y1, 1) (x2, y2, 1)) (x3, y3, 1) := by
  rw [← zl_zero zl_l2, zp_ev_Y h1 h2 h3, zl_U h1 h2 h3, zp_et_p3]
theorem zl_RY {K : Type} [Lean.Grind.CommRing K] {x1 x2 x3 y1 y2 y3 : K} (h1 : y1 * y1 = x1 * x1 * x1 + 7) (h2 : y2 * y2 = x2 * x2 * x2 + 7) (h3 : y3 * y3 = x3 * x3 * x3 + 7) : zp_ev x1 x2 x3 y1 y2 y3 zl_R2 = ec_Y (x1, y1, 1) (ec_C (x2, y2, 1) (x3, y3, 1)) := by
  rw [← zl_zero zl_r2, zp_ev_Y h1 h2 h3, zl_V h1 h2 h3, zp_et_p1]
theorem zl_LZ {K : Type} [Lean.Grind.CommRing K] {x1 x2 x3 y1 y2 y3 : K} (h1 : y1 * y1 = x1 * x1 * x1 + 7) (h2 : y2 * y2 = x2 * x2 * x2 + 7) (h3 : y3 * y3 = x3 * x3 * x3 + 7) : zp_ev x1 x2 x3 y1 y2 y3 zl_L3 = ec_Z (ec_C (x1, y1, 1) (x2, y2, 1)) (x3, y3, 1) := by
  rw [← zl_zero zl_l3, zp_ev_Z h1 h2 h3, zl_U h1 h2 h3, zp_et_p3]
theorem zl_RZ {K : Type} [Lean.Grind.CommRing K] {x1 x2 x3 y1 y2 y3 : K} (h1 : y1 * y1 = x1 * x1 * x1 + 7) (h2 : y2 * y2 = x2 * x2 * x2 + 7) (h3 : y3 * y3 = x3 * x3 * x3 + 7) : zp_ev x1 x2 x3 y1 y2 y3 zl_R3 = ec_Z (x1, y1, 1) (ec_C (x2, y2, 1) (x3, y3, 1)) := by
  rw [← zl_zero zl_r3, zp_ev_Z h1 h2 h3, zl_V h1 h2 h3, zp_et_p1]
theorem ec_asX {K : Type} [Lean.Grind.CommRing K] {x1 x2 x3 y1 y2 y3 : K} (h1 : y1 * y1 = x1 * x1 * x1 + 7) (h2 : y2 * y2 = x2 * x2 * x2 + 7) (h3 : y3 * y3 = x3 * x3 * x3 + 7) :
    ec_X (ec_C (x1, y1, 1) (x2, y2, 1)) (x3, y3, 1) * ec_Z (x1, y1, 1) (ec_C (x2, y2, 1) (x3, y3, 1)) = ec_X (x1, y1, 1) (ec_C (x2, y2, 1) (x3, y3, 1)) * ec_Z (ec_C (x1, y1, 1) (x2, y2, 1)) (x3, y3, 1) := by
  have h := zl_zero (x1 := x1) (x2 := x2) (x3 := x3) (y1 := y1) (y2 := y2) (y3 := y3) zl_as1
  rw [zp_ev_mv h1 h2 h3, zp_ev_mv h1 h2 h3, zl_LX h1 h2 h3, zl_RZ h1 h2 h3, zl_RX h1 h2 h3, zl_LZ h1 h2 h3] at h
  exact h
theorem ec_asY {K : Type} [Lean.Grind.CommRing K] {x1 x2 x3 y1 y2 y3 : K} (h1 : y1 * y1 = x1 * x1 * x1 + 7) (h2 : y2 * y2 = x2 * x2 * x2 + 7) (h3 : y3 * y3 = x3 * x3 * x3 + 7) :
    ec_Y (ec_C (x1, y1, 1) (x2, y2, 1)) (x3, y3, 1) * ec_Z (x1, y1, 1) (ec_C (x2, y2, 1) (x3, y3, 1)) = ec_Y (x1, y1, 1) (ec_C (x2, y2, 1) (x3, y3, 1)) * ec_Z (ec_C (x1, y1, 1) (x2, y2, 1)) (x3, y3, 1) := by
  have h := zl_zero (x1 := x1) (x2 := x2) (x3 := x3) (y1 := y1) (y2 := y2) (y3 := y3) zl_as2
  rw [zp_ev_mv h1 h2 h3, zp_ev_mv h1 h2 h3, zl_LY h1 h2 h3, zl_RZ h1 h2 h3, zl_RY h1 h2 h3, zl_LZ h1 h2 h3] at h
  exact h
end
