section
/-! Polynomials in x1 x2 x3 y1 y2 y3 with whole coefficients, for identities modulo y * y = x * x * x + 7: an own small normaliser. -/
abbrev zp_M : Type := Nat × Nat × Nat × Nat × Nat × Nat
abbrev zp_P : Type := List (zp_M × Int)
def zp_cd (a : zp_M) : Nat := a.1 + 64 * (a.2.1 + 64 * (a.2.2.1 + 64 * (a.2.2.2.1 + 64 * (a.2.2.2.2.1 + 64 * a.2.2.2.2.2))))
def zp_eqm (a b : zp_M) : Bool := Nat.beq a.1 b.1 && (Nat.beq a.2.1 b.2.1 && (Nat.beq a.2.2.1 b.2.2.1 && (Nat.beq a.2.2.2.1 b.2.2.2.1 && (Nat.beq a.2.2.2.2.1 b.2.2.2.2.1 && Nat.beq a.2.2.2.2.2 b.2.2.2.2.2))))
theorem zp_eqm_spec {a b : zp_M} (h : zp_eqm a b = true) : a = b := by
  obtain ⟨a1, a2, a3, a4, a5, a6⟩ := a
  obtain ⟨b1, b2, b3, b4, b5, b6⟩ := b
  simp only [zp_eqm, Bool.and_eq_true] at h
  obtain ⟨h1, h2, h3, h4, h5, h6⟩ := h
  have e1 := Nat.eq_of_beq_eq_true h1
  have e2 := Nat.eq_of_beq_eq_true h2
  have e3 := Nat.eq_of_beq_eq_true h3
  have e4 := Nat.eq_of_beq_eq_true h4
  have e5 := Nat.eq_of_beq_eq_true h5
  have e6 := Nat.eq_of_beq_eq_true h6
  subst e1; subst e2; subst e3; subst e4; subst e5; subst e6
  rfl
def zp_mm (a b : zp_M) : zp_M := (a.1 + b.1, a.2.1 + b.2.1, a.2.2.1 + b.2.2.1, a.2.2.2.1 + b.2.2.2.1, a.2.2.2.2.1 + b.2.2.2.2.1, a.2.2.2.2.2 + b.2.2.2.2.2)
def zp_cs (k : zp_M) (c : Int) (p : zp_P) : zp_P := if c = 0 then p else (k, c) :: p
def zp_go (k : zp_M) (c : Int) (f : zp_P → zp_P) : zp_P → zp_P
  | [] => (k, c) :: f []
  | t :: q => cond (Nat.blt (zp_cd k) (zp_cd t.1)) (t :: zp_go k c f q) (cond (zp_eqm k t.1) (zp_cs k (c + t.2) (f q)) ((k, c) :: f (t :: q)))
def zp_add : zp_P → zp_P → zp_P
  | [], q => q
  | t :: p, q => zp_go t.1 t.2 (zp_add p) q
def zp_tm (k : zp_M) (c : Int) (p : zp_P) : zp_P := p.map fun t => (zp_mm k t.1, c * t.2)
def zp_mr : zp_P → zp_P → zp_P
  | [], _ => []
  | t :: p, q => zp_add (zp_tm t.1 t.2 q) (zp_mr p q)
def zp_ng (p : zp_P) : zp_P := p.map fun t => (t.1, -t.2)
/-- y * y becomes x * x * x + 7, by a variable: 'hi' tells that a term has y * y in it -/
def zp_rd (hi : zp_M → Bool) (B C : zp_M → zp_M) (p : zp_P) : zp_P :=
  zp_add (p.filter fun t => !hi t.1) (zp_add ((p.filter fun t => hi t.1).map fun t => (B t.1, t.2)) ((p.filter fun t => hi t.1).map fun t => (C t.1, 7 * t.2)))
def zp_h1 (k : zp_M) : Bool := Nat.ble 2 k.2.2.2.1
def zp_b1 (k : zp_M) : zp_M := (k.1 + 3, k.2.1, k.2.2.1, k.2.2.2.1 - 2, k.2.2.2.2.1, k.2.2.2.2.2)
def zp_c1 (k : zp_M) : zp_M := (k.1, k.2.1, k.2.2.1, k.2.2.2.1 - 2, k.2.2.2.2.1, k.2.2.2.2.2)
def zp_h2 (k : zp_M) : Bool := Nat.ble 2 k.2.2.2.2.1
def zp_b2 (k : zp_M) : zp_M := (k.1, k.2.1 + 3, k.2.2.1, k.2.2.2.1, k.2.2.2.2.1 - 2, k.2.2.2.2.2)
def zp_c2 (k : zp_M) : zp_M := (k.1, k.2.1, k.2.2.1, k.2.2.2.1, k.2.2.2.2.1 - 2, k.2.2.2.2.2)
def zp_h3 (k : zp_M) : Bool := Nat.ble 2 k.2.2.2.2.2
def zp_b3 (k : zp_M) : zp_M := (k.1, k.2.1, k.2.2.1 + 3, k.2.2.2.1, k.2.2.2.2.1, k.2.2.2.2.2 - 2)
def zp_c3 (k : zp_M) : zp_M := (k.1, k.2.1, k.2.2.1, k.2.2.2.1, k.2.2.2.2.1, k.2.2.2.2.2 - 2)
def zp_mu (p q : zp_P) : zp_P := zp_rd zp_h3 zp_b3 zp_c3 (zp_rd zp_h2 zp_b2 zp_c2 (zp_rd zp_h1 zp_b1 zp_c1 (zp_mr p q)))
def zp_sb (p q : zp_P) : zp_P := zp_add p (zp_ng q)
def zp_k (c : Int) : zp_P := [((0, 0, 0, 0, 0, 0), c)]
def zp_x1 : zp_P := [((1, 0, 0, 0, 0, 0), 1)]
def zp_x2 : zp_P := [((0, 1, 0, 0, 0, 0), 1)]
def zp_x3 : zp_P := [((0, 0, 1, 0, 0, 0), 1)]
def zp_y1 : zp_P := [((0, 0, 0, 1, 0, 0), 1)]
def zp_y2 : zp_P := [((0, 0, 0, 0, 1, 0), 1)]
def zp_y3 : zp_P := [((0, 0, 0, 0, 0, 1), 1)]
-- what they mean in a ring
def zp_c {K : Type} [Lean.Grind.CommRing K] (c : Int) : K := (Lean.Grind.Ring.intCast (α := K)).intCast c
theorem zp_c_add {K : Type} [Lean.Grind.CommRing K] (a b : Int) : zp_c (K := K) (a + b) = zp_c a + zp_c b := Lean.Grind.Ring.intCast_add a b
theorem zp_c_mul {K : Type} [Lean.Grind.CommRing K] (a b : Int) : zp_c (K := K) (a * b) = zp_c a * zp_c b := Lean.Grind.Ring.intCast_mul a b
theorem zp_c_neg {K : Type} [Lean.Grind.CommRing K] (a : Int) : zp_c (K := K) (-a) = -zp_c a := Lean.Grind.Ring.intCast_neg a
theorem zp_c_0 {K : Type} [Lean.Grind.CommRing K] : zp_c (K := K) 0 = 0 := Lean.Grind.Ring.intCast_zero
theorem zp_c_1 {K : Type} [Lean.Grind.CommRing K] : zp_c (K := K) 1 = 1 := Lean.Grind.Ring.intCast_one
theorem zp_c_nat {K : Type} [Lean.Grind.CommRing K] (n : Nat) : zp_c (K := K) (OfNat.ofNat n) = OfNat.ofNat n := Lean.Grind.Ring.intCast_ofNat n
def zp_mo {K : Type} [Lean.Grind.CommRing K] (x1 x2 x3 y1 y2 y3 : K) (k : zp_M) : K := x1 ^ k.1 * (x2 ^ k.2.1 * (x3 ^ k.2.2.1 * (y1 ^ k.2.2.2.1 * (y2 ^ k.2.2.2.2.1 * y3 ^ k.2.2.2.2.2))))
def zp_ev {K : Type} [Lean.Grind.CommRing K] (x1 x2 x3 y1 y2 y3 : K) : zp_P → K
  | [] => 0
  | t :: p => zp_c t.2 * zp_mo x1 x2 x3 y1 y2 y3 t.1 + zp_ev x1 x2 x3 y1 y2 y3 p
theorem zp_mo_mm {K : Type} [Lean.Grind.CommRing K] (x1 x2 x3 y1 y2 y3 : K) (a b : zp_M) : zp_mo x1 x2 x3 y1 y2 y3 (zp_mm a b) = zp_mo x1 x2 x3 y1 y2 y3 a * zp_mo x1 x2 x3 y1 y2 y3 b := by
  simp only [zp_mo, zp_mm, Lean.Grind.Semiring.pow_add]
  grind
theorem zp_ev_cs {K : Type} [Lean.Grind.CommRing K] (x1 x2 x3 y1 y2 y3 : K) (k : zp_M) (c : Int) (p : zp_P) : zp_ev x1 x2 x3 y1 y2 y3 (zp_cs k c p) = zp_c c * zp_mo x1 x2 x3 y1 y2 y3 k + zp_ev x1 x2 x3 y1 y2 y3 p := by
  unfold zp_cs
  split
  · next h => rw [h, zp_c_0]; grind
  · rfl
theorem zp_ev_go {K : Type} [Lean.Grind.CommRing K] (x1 x2 x3 y1 y2 y3 : K) (k : zp_M) (c : Int) (f : zp_P → zp_P) (E : K) (hf : ∀ q, zp_ev x1 x2 x3 y1 y2 y3 (f q) = E + zp_ev x1 x2 x3 y1 y2 y3 q) (q : zp_P) :
    zp_ev x1 x2 x3 y1 y2 y3 (zp_go k c f q) = zp_c c * zp_mo x1 x2 x3 y1 y2 y3 k + E + zp_ev x1 x2 x3 y1 y2 y3 q := by
  induction q with
  | nil => simp only [zp_go, zp_ev, hf]; grind
  | cons t q ih =>
    simp only [zp_go]
    cases hb : Nat.blt (zp_cd k) (zp_cd t.1)
    · cases he : zp_eqm k t.1
      · simp only [cond, zp_ev, hf]; grind
      · have h9 := zp_eqm_spec he
        simp only [cond, zp_ev_cs, hf, zp_ev, zp_c_add, ← h9]; grind
    · simp only [cond, zp_ev, ih]; grind
theorem zp_ev_add {K : Type} [Lean.Grind.CommRing K] (x1 x2 x3 y1 y2 y3 : K) (p q : zp_P) : zp_ev x1 x2 x3 y1 y2 y3 (zp_add p q) = zp_ev x1 x2 x3 y1 y2 y3 p + zp_ev x1 x2 x3 y1 y2 y3 q := by
  induction p generalizing q with
  | nil => simp only [zp_add, zp_ev]; grind
  | cons t p ih => simp only [zp_add]; rw [zp_ev_go x1 x2 x3 y1 y2 y3 t.1 t.2 (zp_add p) (zp_ev x1 x2 x3 y1 y2 y3 p) ih q]; simp only [zp_ev]
theorem zp_ev_tm {K : Type} [Lean.Grind.CommRing K] (x1 x2 x3 y1 y2 y3 : K) (k : zp_M) (c : Int) (p : zp_P) : zp_ev x1 x2 x3 y1 y2 y3 (zp_tm k c p) = zp_c c * zp_mo x1 x2 x3 y1 y2 y3 k * zp_ev x1 x2 x3 y1 y2 y3 p := by
  unfold zp_tm
  induction p with
  | nil => simp only [List.map, zp_ev]; grind
  | cons t p ih => simp only [List.map, zp_ev, ih, zp_mo_mm, zp_c_mul]; grind
theorem zp_ev_mr {K : Type} [Lean.Grind.CommRing K] (x1 x2 x3 y1 y2 y3 : K) (p q : zp_P) : zp_ev x1 x2 x3 y1 y2 y3 (zp_mr p q) = zp_ev x1 x2 x3 y1 y2 y3 p * zp_ev x1 x2 x3 y1 y2 y3 q := by
  induction p with
  | nil => simp only [zp_mr, zp_ev]; grind
  | cons t p ih => simp only [zp_mr, zp_ev, zp_ev_add, zp_ev_tm, ih]; grind
theorem zp_ev_ng {K : Type} [Lean.Grind.CommRing K] (x1 x2 x3 y1 y2 y3 : K) (p : zp_P) : zp_ev x1 x2 x3 y1 y2 y3 (zp_ng p) = -zp_ev x1 x2 x3 y1 y2 y3 p := by
  unfold zp_ng
  induction p with
  | nil => simp only [List.map, zp_ev]; grind
  | cons t p ih => simp only [List.map, zp_ev, ih, zp_c_neg]; grind
theorem zp_ev_rd {K : Type} [Lean.Grind.CommRing K] (x1 x2 x3 y1 y2 y3 : K) (hi : zp_M → Bool) (B C : zp_M → zp_M)
    (h : ∀ k, hi k = true → zp_mo x1 x2 x3 y1 y2 y3 k = zp_mo x1 x2 x3 y1 y2 y3 (B k) + 7 * zp_mo x1 x2 x3 y1 y2 y3 (C k)) (p : zp_P) : zp_ev x1 x2 x3 y1 y2 y3 (zp_rd hi B C p) = zp_ev x1 x2 x3 y1 y2 y3 p := by
  unfold zp_rd
  rw [zp_ev_add, zp_ev_add]
  induction p with
  | nil => simp only [List.filter, List.map, zp_ev]; grind
  | cons t p ih =>
    have h7 : zp_c (K := K) (7 * t.2) = 7 * zp_c t.2 := by rw [zp_c_mul]; rw [show zp_c (K := K) 7 = 7 from zp_c_nat 7]
    cases hh : hi t.1
    · simp only [List.filter, hh, Bool.not_false, zp_ev] at ih ⊢
      grind
    · have h9 := h t.1 hh
      simp only [List.filter, hh, Bool.not_true, List.map, zp_ev, h7, h9] at ih ⊢
      grind
theorem zp_pw {K : Type} [Lean.Grind.CommRing K] (y : K) {n : Nat} (h : Nat.ble 2 n = true) : y ^ n = y * y * y ^ (n - 2) := by
  have h2 := Nat.le_of_ble_eq_true h
  obtain ⟨m, rfl⟩ : ∃ m, n = m + 2 := ⟨n - 2, by omega⟩
  rw [show m + 2 - 2 = m by omega, Lean.Grind.Semiring.pow_succ, Lean.Grind.Semiring.pow_succ]
  grind
theorem zp_pw3 {K : Type} [Lean.Grind.CommRing K] (x : K) (n : Nat) : x ^ (n + 3) = x * x * x * x ^ n := by
  rw [Lean.Grind.Semiring.pow_succ, Lean.Grind.Semiring.pow_succ, Lean.Grind.Semiring.pow_succ]
  grind
theorem zp_ev_mu {K : Type} [Lean.Grind.CommRing K] {x1 x2 x3 y1 y2 y3 : K} (h1 : y1 * y1 = x1 * x1 * x1 + 7) (h2 : y2 * y2 = x2 * x2 * x2 + 7) (h3 : y3 * y3 = x3 * x3 * x3 + 7) (p q : zp_P) :
    zp_ev x1 x2 x3 y1 y2 y3 (zp_mu p q) = zp_ev x1 x2 x3 y1 y2 y3 p * zp_ev x1 x2 x3 y1 y2 y3 q := by
  unfold zp_mu
  rw [zp_ev_rd, zp_ev_rd, zp_ev_rd, zp_ev_mr]
  · intro k hk
    simp only [zp_mo, zp_b1, zp_c1]
    rw [zp_pw y1 hk, h1, zp_pw3]
    grind
  · intro k hk
    simp only [zp_mo, zp_b2, zp_c2]
    rw [zp_pw y2 hk, h2, zp_pw3]
    grind
  · intro k hk
    simp only [zp_mo, zp_b3, zp_c3]
    rw [zp_pw y3 hk, h3, zp_pw3]
    grind
theorem zp_ev_sb {K : Type} [Lean.Grind.CommRing K] (x1 x2 x3 y1 y2 y3 : K) (p q : zp_P) : zp_ev x1 x2 x3 y1 y2 y3 (zp_sb p q) = zp_ev x1 x2 x3 y1 y2 y3 p - zp_ev x1 x2 x3 y1 y2 y3 q := by
  unfold zp_sb
  rw [zp_ev_add, zp_ev_ng]
  grind
theorem zp_ev_k {K : Type} [Lean.Grind.CommRing K] (x1 x2 x3 y1 y2 y3 : K) (c : Int) : zp_ev x1 x2 x3 y1 y2 y3 (zp_k c) = zp_c c := by
  simp only [zp_k, zp_ev, zp_mo, Lean.Grind.Semiring.pow_zero]
  grind
theorem zp_ev_x1 {K : Type} [Lean.Grind.CommRing K] (x1 x2 x3 y1 y2 y3 : K) : zp_ev x1 x2 x3 y1 y2 y3 zp_x1 = x1 := by
  simp only [zp_x1, zp_ev, zp_mo, zp_c_1, Lean.Grind.Semiring.pow_zero, Lean.Grind.Semiring.pow_one]
  grind
theorem zp_ev_x2 {K : Type} [Lean.Grind.CommRing K] (x1 x2 x3 y1 y2 y3 : K) : zp_ev x1 x2 x3 y1 y2 y3 zp_x2 = x2 := by
  simp only [zp_x2, zp_ev, zp_mo, zp_c_1, Lean.Grind.Semiring.pow_zero, Lean.Grind.Semiring.pow_one]
  grind
theorem zp_ev_x3 {K : Type} [Lean.Grind.CommRing K] (x1 x2 x3 y1 y2 y3 : K) : zp_ev x1 x2 x3 y1 y2 y3 zp_x3 = x3 := by
  simp only [zp_x3, zp_ev, zp_mo, zp_c_1, Lean.Grind.Semiring.pow_zero, Lean.Grind.Semiring.pow_one]
  grind
theorem zp_ev_y1 {K : Type} [Lean.Grind.CommRing K] (x1 x2 x3 y1 y2 y3 : K) : zp_ev x1 x2 x3 y1 y2 y3 zp_y1 = y1 := by
  simp only [zp_y1, zp_ev, zp_mo, zp_c_1, Lean.Grind.Semiring.pow_zero, Lean.Grind.Semiring.pow_one]
  grind
theorem zp_ev_y2 {K : Type} [Lean.Grind.CommRing K] (x1 x2 x3 y1 y2 y3 : K) : zp_ev x1 x2 x3 y1 y2 y3 zp_y2 = y2 := by
  simp only [zp_y2, zp_ev, zp_mo, zp_c_1, Lean.Grind.Semiring.pow_zero, Lean.Grind.Semiring.pow_one]
  grind
theorem zp_ev_y3 {K : Type} [Lean.Grind.CommRing K] (x1 x2 x3 y1 y2 y3 : K) : zp_ev x1 x2 x3 y1 y2 y3 zp_y3 = y3 := by
  simp only [zp_y3, zp_ev, zp_mo, zp_c_1, Lean.Grind.Semiring.pow_zero, Lean.Grind.Semiring.pow_one]
  grind
end
section
/-! The curve y * y = x * x * x + 7 over a ring without divisors of zero in which x * x * x + 7 is never zero: its addition is associative. By the addition law that has no exceptional pairs there. -/
theorem zp_zero {K : Type} [Lean.Grind.CommRing K] {x1 x2 x3 y1 y2 y3 : K} {p : zp_P} (h : p.isEmpty = true) : zp_ev x1 x2 x3 y1 y2 y3 p = 0 := by
  cases p with
  | nil => rfl
  | cons t p => cases h
theorem ec_sub0 {K : Type} [Lean.Grind.CommRing K] {a b : K} (h : a - b = 0) : a = b := by grind
theorem ec_canc {K : Type} [Lean.Grind.CommRing K] (nz : ∀ a b : K, a * b = 0 → a = 0 ∨ b = 0) {a x y : K} (ha : a ≠ 0) (h : a * x = a * y) : x = y := by
  have h1 : a * (x - y) = 0 := by grind
  rcases nz _ _ h1 with h2 | h2
  · exact absurd h2 ha
  · exact ec_sub0 h2
theorem ec_mulne {K : Type} [Lean.Grind.CommRing K] (nz : ∀ a b : K, a * b = 0 → a = 0 ∨ b = 0) {a b : K} (ha : a ≠ 0) (hb : b ≠ 0) : a * b ≠ 0 := fun h => (nz _ _ h).elim ha hb
abbrev ec_T (K : Type) : Type := K × K × K
def ec_X {K : Type} [Lean.Grind.CommRing K] (u v : ec_T K) : K := (u.1 * v.2.1 + v.1 * u.2.1) * (u.2.1 * v.2.1 - 21 * (u.2.2 * v.2.2)) - 21 * ((u.2.1 * v.2.2 + v.2.1 * u.2.2) * (u.1 * v.2.2 + v.1 * u.2.2))
def ec_Y {K : Type} [Lean.Grind.CommRing K] (u v : ec_T K) : K := (u.2.1 * v.2.1 + 21 * (u.2.2 * v.2.2)) * (u.2.1 * v.2.1 - 21 * (u.2.2 * v.2.2)) + 63 * (u.1 * v.1 * (u.1 * v.2.2 + v.1 * u.2.2))
def ec_Z {K : Type} [Lean.Grind.CommRing K] (u v : ec_T K) : K := (u.2.1 * v.2.2 + v.2.1 * u.2.2) * (u.2.1 * v.2.1 + 21 * (u.2.2 * v.2.2)) + 3 * (u.1 * v.1 * (u.1 * v.2.1 + v.1 * u.2.1))
def ec_C {K : Type} [Lean.Grind.CommRing K] (u v : ec_T K) : ec_T K := (ec_X u v, ec_Y u v, ec_Z u v)
abbrev zp_T : Type := zp_P × zp_P × zp_P
def zp_X (u v : zp_T) : zp_P := zp_sb (zp_mu (zp_add (zp_mu u.1 v.2.1) (zp_mu v.1 u.2.1)) (zp_sb (zp_mu u.2.1 v.2.1) (zp_mu (zp_k 21) (zp_mu u.2.2 v.2.2)))) (zp_mu (zp_k 21) (zp_mu (zp_add (zp_mu u.2.1 v.2.2) (zp_mu v.2.1 u.2.2)) (zp_add (zp_mu u.1 v.2.2) (zp_mu v.1 u.2.2))))
def zp_Y (u v : zp_T) : zp_P := zp_add (zp_mu (zp_add (zp_mu u.2.1 v.2.1) (zp_mu (zp_k 21) (zp_mu u.2.2 v.2.2))) (zp_sb (zp_mu u.2.1 v.2.1) (zp_mu (zp_k 21) (zp_mu u.2.2 v.2.2)))) (zp_mu (zp_k 63) (zp_mu (zp_mu u.1 v.1) (zp_add (zp_mu u.1 v.2.2) (zp_mu v.1 u.2.2))))
def zp_Z (u v : zp_T) : zp_P := zp_add (zp_mu (zp_add (zp_mu u.2.1 v.2.2) (zp_mu v.2.1 u.2.2)) (zp_add (zp_mu u.2.1 v.2.1) (zp_mu (zp_k 21) (zp_mu u.2.2 v.2.2)))) (zp_mu (zp_k 3) (zp_mu (zp_mu u.1 v.1) (zp_add (zp_mu u.1 v.2.1) (zp_mu v.1 u.2.1))))
def zp_C (u v : zp_T) : zp_T := (zp_X u v, zp_Y u v, zp_Z u v)
def zp_et {K : Type} [Lean.Grind.CommRing K] (x1 x2 x3 y1 y2 y3 : K) (u : zp_T) : ec_T K := (zp_ev x1 x2 x3 y1 y2 y3 u.1, zp_ev x1 x2 x3 y1 y2 y3 u.2.1, zp_ev x1 x2 x3 y1 y2 y3 u.2.2)
theorem zp_ev_X {K : Type} [Lean.Grind.CommRing K] {x1 x2 x3 y1 y2 y3 : K} (h1 : y1 * y1 = x1 * x1 * x1 + 7) (h2 : y2 * y2 = x2 * x2 * x2 + 7) (h3 : y3 * y3 = x3 * x3 * x3 + 7) (u v : zp_T) :
    zp_ev x1 x2 x3 y1 y2 y3 (zp_X u v) = ec_X (zp_et x1 x2 x3 y1 y2 y3 u) (zp_et x1 x2 x3 y1 y2 y3 v) := by
  simp only [zp_X, ec_X, zp_et, zp_ev_sb, zp_ev_add, zp_ev_mu h1 h2 h3, zp_ev_k, show zp_c (K := K) 21 = 21 from zp_c_nat 21]
theorem zp_ev_Y {K : Type} [Lean.Grind.CommRing K] {x1 x2 x3 y1 y2 y3 : K} (h1 : y1 * y1 = x1 * x1 * x1 + 7) (h2 : y2 * y2 = x2 * x2 * x2 + 7) (h3 : y3 * y3 = x3 * x3 * x3 + 7) (u v : zp_T) :
    zp_ev x1 x2 x3 y1 y2 y3 (zp_Y u v) = ec_Y (zp_et x1 x2 x3 y1 y2 y3 u) (zp_et x1 x2 x3 y1 y2 y3 v) := by
  simp only [zp_Y, ec_Y, zp_et, zp_ev_sb, zp_ev_add, zp_ev_mu h1 h2 h3, zp_ev_k, show zp_c (K := K) 21 = 21 from zp_c_nat 21, show zp_c (K := K) 63 = 63 from zp_c_nat 63]
theorem zp_ev_Z {K : Type} [Lean.Grind.CommRing K] {x1 x2 x3 y1 y2 y3 : K} (h1 : y1 * y1 = x1 * x1 * x1 + 7) (h2 : y2 * y2 = x2 * x2 * x2 + 7) (h3 : y3 * y3 = x3 * x3 * x3 + 7) (u v : zp_T) :
    zp_ev x1 x2 x3 y1 y2 y3 (zp_Z u v) = ec_Z (zp_et x1 x2 x3 y1 y2 y3 u) (zp_et x1 x2 x3 y1 y2 y3 v) := by
  simp only [zp_Z, ec_Z, zp_et, zp_ev_sb, zp_ev_add, zp_ev_mu h1 h2 h3, zp_ev_k, show zp_c (K := K) 21 = 21 from zp_c_nat 21, show zp_c (K := K) 3 = 3 from zp_c_nat 3]
def zp_p1 : zp_T := (zp_x1, zp_y1, zp_k 1)
def zp_p2 : zp_T := (zp_x2, zp_y2, zp_k 1)
def zp_p3 : zp_T := (zp_x3, zp_y3, zp_k 1)
theorem zp_et_p1 {K : Type} [Lean.Grind.CommRing K] (x1 x2 x3 y1 y2 y3 : K) : zp_et x1 x2 x3 y1 y2 y3 zp_p1 = (x1, y1, 1) := by simp only [zp_et, zp_p1, zp_ev_x1, zp_ev_y1, zp_ev_k, zp_c_1]
theorem zp_et_p2 {K : Type} [Lean.Grind.CommRing K] (x1 x2 x3 y1 y2 y3 : K) : zp_et x1 x2 x3 y1 y2 y3 zp_p2 = (x2, y2, 1) := by simp only [zp_et, zp_p2, zp_ev_x2, zp_ev_y2, zp_ev_k, zp_c_1]
theorem zp_et_p3 {K : Type} [Lean.Grind.CommRing K] (x1 x2 x3 y1 y2 y3 : K) : zp_et x1 x2 x3 y1 y2 y3 zp_p3 = (x3, y3, 1) := by simp only [zp_et, zp_p3, zp_ev_x3, zp_ev_y3, zp_ev_k, zp_c_1]
theorem zp_et_C {K : Type} [Lean.Grind.CommRing K] {x1 x2 x3 y1 y2 y3 : K} (h1 : y1 * y1 = x1 * x1 * x1 + 7) (h2 : y2 * y2 = x2 * x2 * x2 + 7) (h3 : y3 * y3 = x3 * x3 * x3 + 7) (u v : zp_T) :
    zp_et x1 x2 x3 y1 y2 y3 (zp_C u v) = ec_C (zp_et x1 x2 x3 y1 y2 y3 u) (zp_et x1 x2 x3 y1 y2 y3 v) := by
  show (zp_ev x1 x2 x3 y1 y2 y3 (zp_X u v), zp_ev x1 x2 x3 y1 y2 y3 (zp_Y u v), zp_ev x1 x2 x3 y1 y2 y3 (zp_Z u v)) = _
  rw [zp_ev_X h1 h2 h3, zp_ev_Y h1 h2 h3, zp_ev_Z h1 h2 h3]
  rfl
-- two points: the chord and the tangent, by numerators
def ec_nx {K : Type} [Lean.Grind.CommRing K] (d n x1 x2 : K) : K := n * n - (x1 + x2) * (d * d)
def ec_ny {K : Type} [Lean.Grind.CommRing K] (d n x1 x2 y1 : K) : K := n * (x1 * (d * d) - ec_nx d n x1 x2) - y1 * (d * d * d)
def zp_nx (d n x1 x2 : zp_P) : zp_P := zp_sb (zp_mu n n) (zp_mu (zp_add x1 x2) (zp_mu d d))
def zp_ny (d n x1 x2 y1 : zp_P) : zp_P := zp_sb (zp_mu n (zp_sb (zp_mu x1 (zp_mu d d)) (zp_nx d n x1 x2))) (zp_mu y1 (zp_mu (zp_mu d d) d))
theorem zp_ev_nx {K : Type} [Lean.Grind.CommRing K] {x1 x2 x3 y1 y2 y3 : K} (h1 : y1 * y1 = x1 * x1 * x1 + 7) (h2 : y2 * y2 = x2 * x2 * x2 + 7) (h3 : y3 * y3 = x3 * x3 * x3 + 7) (d n a b : zp_P) :
    zp_ev x1 x2 x3 y1 y2 y3 (zp_nx d n a b) = ec_nx (zp_ev x1 x2 x3 y1 y2 y3 d) (zp_ev x1 x2 x3 y1 y2 y3 n) (zp_ev x1 x2 x3 y1 y2 y3 a) (zp_ev x1 x2 x3 y1 y2 y3 b) := by
  simp only [zp_nx, ec_nx, zp_ev_sb, zp_ev_add, zp_ev_mu h1 h2 h3]
theorem zp_ev_ny {K : Type} [Lean.Grind.CommRing K] {x1 x2 x3 y1 y2 y3 : K} (h1 : y1 * y1 = x1 * x1 * x1 + 7) (h2 : y2 * y2 = x2 * x2 * x2 + 7) (h3 : y3 * y3 = x3 * x3 * x3 + 7) (d n a b c : zp_P) :
    zp_ev x1 x2 x3 y1 y2 y3 (zp_ny d n a b c) = ec_ny (zp_ev x1 x2 x3 y1 y2 y3 d) (zp_ev x1 x2 x3 y1 y2 y3 n) (zp_ev x1 x2 x3 y1 y2 y3 a) (zp_ev x1 x2 x3 y1 y2 y3 b) (zp_ev x1 x2 x3 y1 y2 y3 c) := by
  simp only [zp_ny, ec_ny, zp_ev_sb, zp_ev_nx h1 h2 h3, zp_ev_mu h1 h2 h3]
def zp_D : zp_P := zp_sb zp_x2 zp_x1
def zp_N : zp_P := zp_sb zp_y2 zp_y1
def zp_S : zp_P := zp_sb (zp_ng zp_y2) zp_y1
def zp_U : zp_P := zp_add zp_y1 zp_y1
def zp_V : zp_P := zp_mu (zp_k 3) (zp_mu zp_x1 zp_x1)
set_option maxRecDepth 100000 in
theorem zp_i1 : (zp_sb (zp_mu (zp_mu zp_D zp_D) (zp_X zp_p1 zp_p2)) (zp_mu (zp_nx zp_D zp_N zp_x1 zp_x2) (zp_Z zp_p1 zp_p2))).isEmpty = true := by decide +kernel
set_option maxRecDepth 100000 in
theorem zp_i2 : (zp_sb (zp_mu (zp_mu (zp_mu zp_D zp_D) zp_D) (zp_Y zp_p1 zp_p2)) (zp_mu (zp_ny zp_D zp_N zp_x1 zp_x2 zp_y1) (zp_Z zp_p1 zp_p2))).isEmpty = true := by decide +kernel
set_option maxRecDepth 100000 in
theorem zp_i3 : (zp_sb (zp_ny zp_D zp_S zp_x1 zp_x2 zp_y1) (zp_Z zp_p1 zp_p2)).isEmpty = true := by decide +kernel
set_option maxRecDepth 100000 in
theorem zp_i4 : (zp_sb (zp_mu (zp_ny zp_D zp_N zp_x1 zp_x2 zp_y1) (zp_ny zp_D zp_N zp_x1 zp_x2 zp_y1)) (zp_add (zp_mu (zp_mu (zp_nx zp_D zp_N zp_x1 zp_x2) (zp_nx zp_D zp_N zp_x1 zp_x2)) (zp_nx zp_D zp_N zp_x1 zp_x2)) (zp_mu (zp_k 7) (zp_mu (zp_mu (zp_mu zp_D zp_D) zp_D) (zp_mu (zp_mu zp_D zp_D) zp_D))))).isEmpty = true := by decide +kernel
set_option maxRecDepth 100000 in
theorem zp_i5 : (zp_sb (zp_mu (zp_mu zp_U zp_U) (zp_X zp_p1 zp_p1)) (zp_mu (zp_nx zp_U zp_V zp_x1 zp_x1) (zp_Z zp_p1 zp_p1))).isEmpty = true := by decide +kernel
set_option maxRecDepth 100000 in
theorem zp_i6 : (zp_sb (zp_mu (zp_mu (zp_mu zp_U zp_U) zp_U) (zp_Y zp_p1 zp_p1)) (zp_mu (zp_ny zp_U zp_V zp_x1 zp_x1 zp_y1) (zp_Z zp_p1 zp_p1))).isEmpty = true := by decide +kernel
set_option maxRecDepth 100000 in
theorem zp_i7 : (zp_sb (zp_Z zp_p1 zp_p1) (zp_mu (zp_mu zp_U zp_U) zp_U)).isEmpty = true := by decide +kernel
set_option maxRecDepth 100000 in
theorem zp_i8 : (zp_sb (zp_mu (zp_ny zp_U zp_V zp_x1 zp_x1 zp_y1) (zp_ny zp_U zp_V zp_x1 zp_x1 zp_y1)) (zp_add (zp_mu (zp_mu (zp_nx zp_U zp_V zp_x1 zp_x1) (zp_nx zp_U zp_V zp_x1 zp_x1)) (zp_nx zp_U zp_V zp_x1 zp_x1)) (zp_mu (zp_k 7) (zp_mu (zp_mu (zp_mu zp_U zp_U) zp_U) (zp_mu (zp_mu zp_U zp_U) zp_U))))).isEmpty = true := by decide +kernel
set_option maxRecDepth 100000 in
theorem zp_i9 : (zp_sb (zp_Y zp_p1 (zp_x1, zp_ng zp_y1, zp_k 1)) (zp_ny zp_U zp_V zp_x1 zp_x1 zp_y1)).isEmpty = true := by decide +kernel
section
theorem ec_i1 {K : Type} [Lean.Grind.CommRing K] {x1 x2 y1 y2 : K} (h1 : y1 * y1 = x1 * x1 * x1 + 7) (h2 : y2 * y2 = x2 * x2 * x2 + 7) :
    (x2 - x1) * (x2 - x1) * ec_X (x1, y1, 1) (x2, y2, 1) = ec_nx (x2 - x1) (y2 - y1) x1 x2 * ec_Z (x1, y1, 1) (x2, y2, 1) := by
  have h := zp_zero (x1 := x1) (x2 := x2) (x3 := x1) (y1 := y1) (y2 := y2) (y3 := y1) zp_i1
  simp only [zp_D, zp_N, zp_ev_sb, zp_ev_mu h1 h2 h1, zp_ev_nx h1 h2 h1, zp_ev_X h1 h2 h1, zp_ev_Z h1 h2 h1, zp_et_p1, zp_et_p2, zp_ev_x1, zp_ev_x2, zp_ev_y1, zp_ev_y2] at h
  exact ec_sub0 h
theorem ec_i2 {K : Type} [Lean.Grind.CommRing K] {x1 x2 y1 y2 : K} (h1 : y1 * y1 = x1 * x1 * x1 + 7) (h2 : y2 * y2 = x2 * x2 * x2 + 7) :
    (x2 - x1) * (x2 - x1) * (x2 - x1) * ec_Y (x1, y1, 1) (x2, y2, 1) = ec_ny (x2 - x1) (y2 - y1) x1 x2 y1 * ec_Z (x1, y1, 1) (x2, y2, 1) := by
  have h := zp_zero (x1 := x1) (x2 := x2) (x3 := x1) (y1 := y1) (y2 := y2) (y3 := y1) zp_i2
  simp only [zp_D, zp_N, zp_ev_sb, zp_ev_mu h1 h2 h1, zp_ev_ny h1 h2 h1, zp_ev_Y h1 h2 h1, zp_ev_Z h1 h2 h1, zp_et_p1, zp_et_p2, zp_ev_x1, zp_ev_x2, zp_ev_y1, zp_ev_y2] at h
  exact ec_sub0 h
theorem ec_i3 {K : Type} [Lean.Grind.CommRing K] {x1 x2 y1 y2 : K} (h1 : y1 * y1 = x1 * x1 * x1 + 7) (h2 : y2 * y2 = x2 * x2 * x2 + 7) :
    ec_ny (x2 - x1) (-y2 - y1) x1 x2 y1 = ec_Z (x1, y1, 1) (x2, y2, 1) := by
  have h := zp_zero (x1 := x1) (x2 := x2) (x3 := x1) (y1 := y1) (y2 := y2) (y3 := y1) zp_i3
  simp only [zp_D, zp_S, zp_ev_sb, zp_ev_ng, zp_ev_ny h1 h2 h1, zp_ev_Z h1 h2 h1, zp_et_p1, zp_et_p2, zp_ev_x1, zp_ev_x2, zp_ev_y1, zp_ev_y2] at h
  exact ec_sub0 h
theorem ec_i4 {K : Type} [Lean.Grind.CommRing K] {x1 x2 y1 y2 : K} (h1 : y1 * y1 = x1 * x1 * x1 + 7) (h2 : y2 * y2 = x2 * x2 * x2 + 7) :
    ec_ny (x2 - x1) (y2 - y1) x1 x2 y1 * ec_ny (x2 - x1) (y2 - y1) x1 x2 y1 = ec_nx (x2 - x1) (y2 - y1) x1 x2 * ec_nx (x2 - x1) (y2 - y1) x1 x2 * ec_nx (x2 - x1) (y2 - y1) x1 x2 + 7 * ((x2 - x1) * (x2 - x1) * (x2 - x1) * ((x2 - x1) * (x2 - x1) * (x2 - x1))) := by
  have h := zp_zero (x1 := x1) (x2 := x2) (x3 := x1) (y1 := y1) (y2 := y2) (y3 := y1) zp_i4
  simp only [zp_D, zp_N, zp_ev_sb, zp_ev_add, zp_ev_mu h1 h2 h1, zp_ev_ny h1 h2 h1, zp_ev_nx h1 h2 h1, zp_ev_x1, zp_ev_x2, zp_ev_y1, zp_ev_y2, zp_ev_k, show zp_c (K := K) 7 = 7 from zp_c_nat 7] at h
  exact ec_sub0 h
theorem ec_i5 {K : Type} [Lean.Grind.CommRing K] {x1 y1 : K} (h1 : y1 * y1 = x1 * x1 * x1 + 7) :
    (y1 + y1) * (y1 + y1) * ec_X (x1, y1, 1) (x1, y1, 1) = ec_nx (y1 + y1) (3 * (x1 * x1)) x1 x1 * ec_Z (x1, y1, 1) (x1, y1, 1) := by
  have h := zp_zero (x1 := x1) (x2 := x1) (x3 := x1) (y1 := y1) (y2 := y1) (y3 := y1) zp_i5
  simp only [zp_U, zp_V, zp_ev_sb, zp_ev_add, zp_ev_mu h1 h1 h1, zp_ev_nx h1 h1 h1, zp_ev_X h1 h1 h1, zp_ev_Z h1 h1 h1, zp_et_p1, zp_ev_x1, zp_ev_y1, zp_ev_k, show zp_c (K := K) 3 = 3 from zp_c_nat 3] at h
  exact ec_sub0 h
theorem ec_i6 {K : Type} [Lean.Grind.CommRing K] {x1 y1 : K} (h1 : y1 * y1 = x1 * x1 * x1 + 7) :
    (y1 + y1) * (y1 + y1) * (y1 + y1) * ec_Y (x1, y1, 1) (x1, y1, 1) = ec_ny (y1 + y1) (3 * (x1 * x1)) x1 x1 y1 * ec_Z (x1, y1, 1) (x1, y1, 1) := by
  have h := zp_zero (x1 := x1) (x2 := x1) (x3 := x1) (y1 := y1) (y2 := y1) (y3 := y1) zp_i6
  simp only [zp_U, zp_V, zp_ev_sb, zp_ev_add, zp_ev_mu h1 h1 h1, zp_ev_ny h1 h1 h1, zp_ev_Y h1 h1 h1, zp_ev_Z h1 h1 h1, zp_et_p1, zp_ev_x1, zp_ev_y1, zp_ev_k, show zp_c (K := K) 3 = 3 from zp_c_nat 3] at h
  exact ec_sub0 h
theorem ec_i7 {K : Type} [Lean.Grind.CommRing K] {x1 y1 : K} (h1 : y1 * y1 = x1 * x1 * x1 + 7) : ec_Z (x1, y1, 1) (x1, y1, 1) = (y1 + y1) * (y1 + y1) * (y1 + y1) := by
  have h := zp_zero (x1 := x1) (x2 := x1) (x3 := x1) (y1 := y1) (y2 := y1) (y3 := y1) zp_i7
  simp only [zp_U, zp_ev_sb, zp_ev_add, zp_ev_mu h1 h1 h1, zp_ev_Z h1 h1 h1, zp_et_p1, zp_ev_x1, zp_ev_y1] at h
  exact ec_sub0 h
theorem ec_i8 {K : Type} [Lean.Grind.CommRing K] {x1 y1 : K} (h1 : y1 * y1 = x1 * x1 * x1 + 7) :
    ec_ny (y1 + y1) (3 * (x1 * x1)) x1 x1 y1 * ec_ny (y1 + y1) (3 * (x1 * x1)) x1 x1 y1 = ec_nx (y1 + y1) (3 * (x1 * x1)) x1 x1 * ec_nx (y1 + y1) (3 * (x1 * x1)) x1 x1 * ec_nx (y1 + y1) (3 * (x1 * x1)) x1 x1 + 7 * ((y1 + y1) * (y1 + y1) * (y1 + y1) * ((y1 + y1) * (y1 + y1) * (y1 + y1))) := by
  have h := zp_zero (x1 := x1) (x2 := x1) (x3 := x1) (y1 := y1) (y2 := y1) (y3 := y1) zp_i8
  simp only [zp_U, zp_V, zp_ev_sb, zp_ev_add, zp_ev_mu h1 h1 h1, zp_ev_ny h1 h1 h1, zp_ev_nx h1 h1 h1, zp_ev_x1, zp_ev_y1, zp_ev_k, show zp_c (K := K) 7 = 7 from zp_c_nat 7, show zp_c (K := K) 3 = 3 from zp_c_nat 3] at h
  exact ec_sub0 h
theorem ec_i9 {K : Type} [Lean.Grind.CommRing K] {x1 y1 : K} (h1 : y1 * y1 = x1 * x1 * x1 + 7) : ec_Y (x1, y1, 1) (x1, -y1, 1) = ec_ny (y1 + y1) (3 * (x1 * x1)) x1 x1 y1 := by
  have h := zp_zero (x1 := x1) (x2 := x1) (x3 := x1) (y1 := y1) (y2 := y1) (y3 := y1) zp_i9
  rw [zp_ev_sb, zp_ev_Y h1 h1 h1, zp_ev_ny h1 h1 h1, zp_et_p1] at h
  simp only [zp_et, zp_U, zp_V, zp_ev_ng, zp_ev_add, zp_ev_mu h1 h1 h1, zp_ev_x1, zp_ev_y1, zp_ev_k, zp_c_1, show zp_c (K := K) 3 = 3 from zp_c_nat 3] at h
  exact ec_sub0 h
end
end
section
/-! The two ways to add three points, as polynomials written out. -/
def zp_mb : Nat → zp_P → zp_P → zp_P
  | 0, p, q => zp_mr p q
  | n + 1, p, q => zp_add (zp_mb n (p.take (p.length / 2)) q) (zp_mb n (p.drop (p.length / 2)) q)
def zp_mv (n : Nat) (p q : zp_P) : zp_P := zp_rd zp_h3 zp_b3 zp_c3 (zp_rd zp_h2 zp_b2 zp_c2 (zp_rd zp_h1 zp_b1 zp_c1 (zp_mb n p q)))
theorem zp_ev_app {K : Type} [Lean.Grind.CommRing K] (x1 x2 x3 y1 y2 y3 : K) (p q : zp_P) : zp_ev x1 x2 x3 y1 y2 y3 (p ++ q) = zp_ev x1 x2 x3 y1 y2 y3 p + zp_ev x1 x2 x3 y1 y2 y3 q := by
  induction p with
  | nil => simp only [List.nil_append, zp_ev]; grind
  | cons t p ih => simp only [List.cons_append, zp_ev, ih]; grind
theorem zp_ev_mb {K : Type} [Lean.Grind.CommRing K] (x1 x2 x3 y1 y2 y3 : K) (n : Nat) (p q : zp_P) : zp_ev x1 x2 x3 y1 y2 y3 (zp_mb n p q) = zp_ev x1 x2 x3 y1 y2 y3 p * zp_ev x1 x2 x3 y1 y2 y3 q := by
  induction n generalizing p with
  | zero => exact zp_ev_mr x1 x2 x3 y1 y2 y3 p q
  | succ n ih =>
    simp only [zp_mb, zp_ev_add, ih]
    have h := zp_ev_app x1 x2 x3 y1 y2 y3 (p.take (p.length / 2)) (p.drop (p.length / 2))
    rw [List.take_append_drop] at h
    rw [h]
    grind
theorem zp_ev_mv {K : Type} [Lean.Grind.CommRing K] {x1 x2 x3 y1 y2 y3 : K} (h1 : y1 * y1 = x1 * x1 * x1 + 7) (h2 : y2 * y2 = x2 * x2 * x2 + 7) (h3 : y3 * y3 = x3 * x3 * x3 + 7) (n : Nat) (p q : zp_P) :
    zp_ev x1 x2 x3 y1 y2 y3 (zp_mv n p q) = zp_ev x1 x2 x3 y1 y2 y3 p * zp_ev x1 x2 x3 y1 y2 y3 q := by
  have h : ∀ z : zp_P, zp_ev x1 x2 x3 y1 y2 y3 (zp_rd zp_h3 zp_b3 zp_c3 (zp_rd zp_h2 zp_b2 zp_c2 (zp_rd zp_h1 zp_b1 zp_c1 z))) = zp_ev x1 x2 x3 y1 y2 y3 z := by
    intro z
    rw [zp_ev_rd, zp_ev_rd, zp_ev_rd]
    · intro k hk
      simp only [zp_mo, zp_b1, zp_c1]
      rw [zp_pw y1 hk, h1, zp_pw3]
      grind
    · intro k hk
      simp only [zp_mo, zp_b2, zp_c2]
      rw [zp_pw y2 hk, h2, zp_pw3]
      grind
    · intro k hk
      simp only [zp_mo, zp_b3, zp_c3]
      rw [zp_pw y3 hk, h3, zp_pw3]
      grind
  unfold zp_mv
  rw [h, zp_ev_mb]
def zl_U1 : zp_P := [((3, 1, 0, 0, 1, 0), 1), ((0, 1, 0, 0, 1, 0), (-14)), ((1, 0, 0, 0, 1, 0), (-42)), ((1, 3, 0, 1, 0, 0), 1), ((0, 1, 0, 1, 0, 0), (-42)), ((1, 0, 0, 1, 0, 0), (-14))]
def zl_U2 : zp_P := [((3, 3, 0, 0, 0, 0), 1), ((0, 3, 0, 0, 0, 0), 7), ((1, 2, 0, 0, 0, 0), 63), ((2, 1, 0, 0, 0, 0), 63), ((3, 0, 0, 0, 0, 0), 7), ((0, 0, 0, 0, 0, 0), (-392))]
def zl_U3 : zp_P := [((2, 1, 0, 0, 1, 0), 3), ((3, 0, 0, 0, 1, 0), 1), ((0, 0, 0, 0, 1, 0), 28), ((0, 3, 0, 1, 0, 0), 1), ((1, 2, 0, 1, 0, 0), 3), ((0, 0, 0, 1, 0, 0), 28)]
def zl_V1 : zp_P := [((0, 3, 1, 0, 0, 1), 1), ((0, 0, 1, 0, 0, 1), (-14)), ((0, 1, 0, 0, 0, 1), (-42)), ((0, 1, 3, 0, 1, 0), 1), ((0, 0, 1, 0, 1, 0), (-42)), ((0, 1, 0, 0, 1, 0), (-14))]
def zl_V2 : zp_P := [((0, 3, 3, 0, 0, 0), 1), ((0, 0, 3, 0, 0, 0), 7), ((0, 1, 2, 0, 0, 0), 63), ((0, 2, 1, 0, 0, 0), 63), ((0, 3, 0, 0, 0, 0), 7), ((0, 0, 0, 0, 0, 0), (-392))]
def zl_V3 : zp_P := [((0, 2, 1, 0, 0, 1), 3), ((0, 3, 0, 0, 0, 1), 1), ((0, 0, 0, 0, 0, 1), 28), ((0, 0, 3, 0, 1, 0), 1), ((0, 1, 2, 0, 1, 0), 3), ((0, 0, 0, 0, 1, 0), 28)]
def zl_L1 : zp_P := [((2, 4, 1, 1, 1, 1), (-126)), ((3, 3, 1, 1, 1, 1), (-420)), ((0, 3, 1, 1, 1, 1), (-1176)), ((4, 2, 1, 1, 1, 1), (-126)), ((1, 2, 1, 1, 1, 1), (-3528)), ((2, 1, 1, 1, 1, 1), (-3528)), ((3, 0, 1, 1, 1, 1), (-1176)), ((0, 0, 1, 1, 1, 1), (-32928)), ((3, 4, 0, 1, 1, 1), (-168)), ((0, 4, 0, 1, 1, 1), 588), ((4, 3, 0, 1, 1, 1), (-168)), ((1, 3, 0, 1, 1, 1), 2352), ((2, 2, 0, 1, 1, 1), 10584), ((3, 1, 0, 1, 1, 1), 2352), ((0, 1, 0, 1, 1, 1), 65856), ((4, 0, 0, 1, 1, 1), 588), ((1, 0, 0, 1, 1, 1), 65856), ((6, 6, 1, 0, 0, 1), 1), ((3, 6, 1, 0, 0, 1), (-7)), ((0, 6, 1, 0, 0, 1), (-98)), ((4, 5, 1, 0, 0, 1), (-189)), ((5, 4, 1, 0, 0, 1), (-189)), ((6, 3, 1, 0, 0, 1), (-7)), ((3, 3, 1, 0, 0, 1), 4900), ((0, 3, 1, 0, 0, 1), (-30184)), ((1, 2, 1, 0, 0, 1), (-74088)), ((2, 1, 1, 0, 0, 1), (-74088)), ((6, 0, 1, 0, 0, 1), (-98)), ((3, 0, 1, 0, 0, 1), (-30184)), ((0, 0, 1, 0, 0, 1), (-76832)), ((4, 6, 0, 0, 0, 1), (-42)), ((1, 6, 0, 0, 0, 1), (-294)), ((5, 5, 0, 0, 0, 1), (-252)), ((2, 5, 0, 0, 0, 1), 882), ((6, 4, 0, 0, 0, 1), (-42)), ((3, 4, 0, 0, 0, 1), 6468), ((0, 4, 0, 0, 0, 1), 28812), ((4, 3, 0, 0, 0, 1), 6468), ((1, 3, 0, 0, 0, 1), 82320), ((5, 2, 0, 0, 0, 1), 882), ((2, 2, 0, 0, 0, 1), 24696), ((6, 1, 0, 0, 0, 1), (-294)), ((3, 1, 0, 0, 0, 1), 82320), ((0, 1, 0, 0, 0, 1), 460992), ((4, 0, 0, 0, 0, 1), 28812), ((1, 0, 0, 0, 0, 1), 460992), ((6, 4, 3, 0, 1, 0), 1), ((3, 4, 3, 0, 1, 0), (-7)), ((0, 4, 3, 0, 1, 0), (-98)), ((4, 3, 3, 0, 1, 0), 21), ((1, 3, 3, 0, 1, 0), (-1176)), ((5, 2, 3, 0, 1, 0), 63), ((2, 2, 3, 0, 1, 0), (-3528)), ((6, 1, 3, 0, 1, 0), 7), ((3, 1, 3, 0, 1, 0), (-3136)), ((0, 1, 3, 0, 1, 0), 5488), ((4, 0, 3, 0, 1, 0), (-294)), ((1, 0, 3, 0, 1, 0), 16464), ((5, 4, 1, 0, 1, 0), (-126)), ((2, 4, 1, 0, 1, 0), (-882)), ((6, 3, 1, 0, 1, 0), (-42)), ((3, 3, 1, 0, 1, 0), (-9408)), ((0, 3, 1, 0, 1, 0), (-8232)), ((4, 2, 1, 0, 1, 0), (-10584)), ((1, 2, 1, 0, 1, 0), (-74088)), ((5, 1, 1, 0, 1, 0), (-3528)), ((2, 1, 1, 0, 1, 0), (-24696)), ((6, 0, 1, 0, 1, 0), (-294)), ((3, 0, 1, 0, 1, 0), 8232), ((0, 0, 1, 0, 1, 0), 460992), ((6, 4, 0, 0, 1, 0), (-14)), ((3, 4, 0, 0, 1, 0), 98), ((0, 4, 0, 0, 1, 0), 1372), ((4, 3, 0, 0, 1, 0), (-294)), ((1, 3, 0, 0, 1, 0), 16464), ((5, 2, 0, 0, 1, 0), (-882)), ((2, 2, 0, 0, 1, 0), 49392), ((6, 1, 0, 0, 1, 0), (-98)), ((3, 1, 0, 0, 1, 0), 43904), ((0, 1, 0, 0, 1, 0), (-76832)), ((4, 0, 0, 0, 1, 0), 4116), ((1, 0, 0, 0, 1, 0), (-230496)), ((4, 6, 3, 1, 0, 0), 1), ((1, 6, 3, 1, 0, 0), 7), ((2, 5, 3, 1, 0, 0), 63), ((3, 4, 3, 1, 0, 0), 21), ((0, 4, 3, 1, 0, 0), (-294)), ((4, 3, 3, 1, 0, 0), (-7)), ((1, 3, 3, 1, 0, 0), (-3136)), ((2, 2, 3, 1, 0, 0), (-3528)), ((3, 1, 3, 1, 0, 0), (-1176)), ((0, 1, 3, 1, 0, 0), 16464), ((4, 0, 3, 1, 0, 0), (-98)), ((1, 0, 3, 1, 0, 0), 5488), ((3, 6, 1, 1, 0, 0), (-42)), ((0, 6, 1, 1, 0, 0), (-294)), ((4, 5, 1, 1, 0, 0), (-126)), ((1, 5, 1, 1, 0, 0), (-3528)), ((2, 4, 1, 1, 0, 0), (-10584)), ((3, 3, 1, 1, 0, 0), (-9408)), ((0, 3, 1, 1, 0, 0), 8232), ((4, 2, 1, 1, 0, 0), (-882)), ((1, 2, 1, 1, 0, 0), (-24696)), ((2, 1, 1, 1, 0, 0), (-74088)), ((3, 0, 1, 1, 0, 0), (-8232)), ((0, 0, 1, 1, 0, 0), 460992), ((4, 6, 0, 1, 0, 0), (-14)), ((1, 6, 0, 1, 0, 0), (-98)), ((2, 5, 0, 1, 0, 0), (-882)), ((3, 4, 0, 1, 0, 0), (-294)), ((0, 4, 0, 1, 0, 0), 4116), ((4, 3, 0, 1, 0, 0), 98), ((1, 3, 0, 1, 0, 0), 43904), ((2, 2, 0, 1, 0, 0), 49392), ((3, 1, 0, 1, 0, 0), 16464), ((0, 1, 0, 1, 0, 0), (-230496)), ((4, 0, 0, 1, 0, 0), 1372), ((1, 0, 0, 1, 0, 0), (-76832))]
def zl_L2 : zp_P := [((3, 4, 2, 1, 1, 0), 252), ((0, 4, 2, 1, 1, 0), (-882)), ((4, 3, 2, 1, 1, 0), 252), ((1, 3, 2, 1, 1, 0), (-3528)), ((2, 2, 2, 1, 1, 0), (-15876)), ((3, 1, 2, 1, 1, 0), (-3528)), ((0, 1, 2, 1, 1, 0), (-98784)), ((4, 0, 2, 1, 1, 0), (-882)), ((1, 0, 2, 1, 1, 0), (-98784)), ((4, 4, 1, 1, 1, 0), 126), ((1, 4, 1, 1, 1, 0), (-1764)), ((2, 3, 1, 1, 1, 0), (-5292)), ((3, 2, 1, 1, 1, 0), (-5292)), ((0, 2, 1, 1, 1, 0), 74088), ((4, 1, 1, 1, 1, 0), (-1764)), ((1, 1, 1, 1, 1, 0), 246960), ((2, 0, 1, 1, 1, 0), 74088), ((2, 4, 0, 1, 1, 0), (-2646)), ((3, 3, 0, 1, 1, 0), (-8820)), ((0, 3, 0, 1, 1, 0), (-24696)), ((4, 2, 0, 1, 1, 0), (-2646)), ((1, 2, 0, 1, 1, 0), (-74088)), ((2, 1, 0, 1, 1, 0), (-74088)), ((3, 0, 0, 1, 1, 0), (-24696)), ((0, 0, 0, 1, 1, 0), (-691488)), ((6, 6, 3, 0, 0, 0), 1), ((3, 6, 3, 0, 0, 0), 14), ((0, 6, 3, 0, 0, 0), 49), ((4, 5, 3, 0, 0, 0), 126), ((1, 5, 3, 0, 0, 0), 882), ((5, 4, 3, 0, 0, 0), 126), ((2, 4, 3, 0, 0, 0), 4851), ((6, 3, 3, 0, 0, 0), 14), ((3, 3, 3, 0, 0, 0), 7252), ((0, 3, 3, 0, 0, 0), (-5488)), ((4, 2, 3, 0, 0, 0), 4851), ((1, 2, 3, 0, 0, 0), (-49392)), ((5, 1, 3, 0, 0, 0), 882), ((2, 1, 3, 0, 0, 0), (-49392)), ((6, 0, 3, 0, 0, 0), 49), ((3, 0, 3, 0, 0, 0), (-5488)), ((0, 0, 3, 0, 0, 0), 153664), ((4, 6, 2, 0, 0, 0), 63), ((1, 6, 2, 0, 0, 0), 441), ((5, 5, 2, 0, 0, 0), 378), ((2, 5, 2, 0, 0, 0), (-1323)), ((6, 4, 2, 0, 0, 0), 63), ((3, 4, 2, 0, 0, 0), (-9702)), ((0, 4, 2, 0, 0, 0), (-43218)), ((4, 3, 2, 0, 0, 0), (-9702)), ((1, 3, 2, 0, 0, 0), (-123480)), ((5, 2, 2, 0, 0, 0), (-1323)), ((2, 2, 2, 0, 0, 0), (-37044)), ((6, 1, 2, 0, 0, 0), 441), ((3, 1, 2, 0, 0, 0), (-123480)), ((0, 1, 2, 0, 0, 0), (-691488)), ((4, 0, 2, 0, 0, 0), (-43218)), ((1, 0, 2, 0, 0, 0), (-691488)), ((5, 6, 1, 0, 0, 0), 63), ((2, 6, 1, 0, 0, 0), 441), ((6, 5, 1, 0, 0, 0), 63), ((3, 5, 1, 0, 0, 0), (-1764)), ((0, 5, 1, 0, 0, 0), 12348), ((4, 4, 1, 0, 0, 0), (-10584)), ((1, 4, 1, 0, 0, 0), 37044), ((5, 3, 1, 0, 0, 0), (-1764)), ((2, 3, 1, 0, 0, 0), 98784), ((6, 2, 1, 0, 0, 0), 441), ((3, 2, 1, 0, 0, 0), 98784), ((0, 2, 1, 0, 0, 0), 864360), ((4, 1, 1, 0, 0, 0), 37044), ((1, 1, 1, 0, 0, 0), 1037232), ((5, 0, 1, 0, 0, 0), 12348), ((2, 0, 1, 0, 0, 0), 864360), ((6, 6, 0, 0, 0, 0), 7), ((3, 6, 0, 0, 0, 0), (-343)), ((0, 6, 0, 0, 0, 0), (-2744)), ((4, 5, 0, 0, 0, 0), (-5733)), ((1, 5, 0, 0, 0, 0), (-12348)), ((5, 4, 0, 0, 0, 0), (-5733)), ((2, 4, 0, 0, 0, 0), (-67914)), ((6, 3, 0, 0, 0, 0), (-343)), ((3, 3, 0, 0, 0, 0), 1372), ((0, 3, 0, 0, 0, 0), (-557032)), ((4, 2, 0, 0, 0, 0), (-67914)), ((1, 2, 0, 0, 0, 0), (-864360)), ((5, 1, 0, 0, 0, 0), (-12348)), ((2, 1, 0, 0, 0, 0), (-864360)), ((6, 0, 0, 0, 0, 0), (-2744)), ((3, 0, 0, 0, 0, 0), (-557032)), ((0, 0, 0, 0, 0, 0), (-3764768))]
def zl_L3 : zp_P := [((4, 4, 1, 1, 1, 1), 6), ((1, 4, 1, 1, 1, 1), (-84)), ((2, 3, 1, 1, 1, 1), (-252)), ((3, 2, 1, 1, 1, 1), (-252)), ((0, 2, 1, 1, 1, 1), 3528), ((4, 1, 1, 1, 1, 1), (-84)), ((1, 1, 1, 1, 1, 1), 11760), ((2, 0, 1, 1, 1, 1), 3528), ((2, 4, 0, 1, 1, 1), 126), ((3, 3, 0, 1, 1, 1), 420), ((0, 3, 0, 1, 1, 1), 1176), ((4, 2, 0, 1, 1, 1), 126), ((1, 2, 0, 1, 1, 1), 3528), ((2, 1, 0, 1, 1, 1), 3528), ((3, 0, 0, 1, 1, 1), 1176), ((0, 0, 0, 1, 1, 1), 32928), ((5, 6, 1, 0, 0, 1), 3), ((2, 6, 1, 0, 0, 1), 21), ((6, 5, 1, 0, 0, 1), 3), ((3, 5, 1, 0, 0, 1), (-84)), ((0, 5, 1, 0, 0, 1), 588), ((4, 4, 1, 0, 0, 1), (-504)), ((1, 4, 1, 0, 0, 1), 1764), ((5, 3, 1, 0, 0, 1), (-84)), ((2, 3, 1, 0, 0, 1), 4704), ((6, 2, 1, 0, 0, 1), 21), ((3, 2, 1, 0, 0, 1), 4704), ((0, 2, 1, 0, 0, 1), 41160), ((4, 1, 1, 0, 0, 1), 1764), ((1, 1, 1, 0, 0, 1), 49392), ((5, 0, 1, 0, 0, 1), 588), ((2, 0, 1, 0, 0, 1), 41160), ((6, 6, 0, 0, 0, 1), 1), ((3, 6, 0, 0, 0, 1), 35), ((0, 6, 0, 0, 0, 1), 196), ((4, 5, 0, 0, 0, 1), 441), ((1, 5, 0, 0, 0, 1), 1764), ((5, 4, 0, 0, 0, 1), 441), ((2, 4, 0, 0, 0, 1), 9702), ((6, 3, 0, 0, 0, 1), 35), ((3, 3, 0, 0, 0, 1), 9604), ((0, 3, 0, 0, 0, 1), 19208), ((4, 2, 0, 0, 0, 1), 9702), ((1, 2, 0, 0, 0, 1), (-24696)), ((5, 1, 0, 0, 0, 1), 1764), ((2, 1, 0, 0, 0, 1), (-24696)), ((6, 0, 0, 0, 0, 1), 196), ((3, 0, 0, 0, 0, 1), 19208), ((0, 0, 0, 0, 0, 1), 384160), ((5, 4, 3, 0, 1, 0), 3), ((2, 4, 3, 0, 1, 0), 21), ((6, 3, 3, 0, 1, 0), 1), ((3, 3, 3, 0, 1, 0), 224), ((0, 3, 3, 0, 1, 0), 196), ((4, 2, 3, 0, 1, 0), 252), ((1, 2, 3, 0, 1, 0), 1764), ((5, 1, 3, 0, 1, 0), 84), ((2, 1, 3, 0, 1, 0), 588), ((6, 0, 3, 0, 1, 0), 7), ((3, 0, 3, 0, 1, 0), (-196)), ((0, 0, 3, 0, 1, 0), (-10976)), ((6, 4, 2, 0, 1, 0), 3), ((3, 4, 2, 0, 1, 0), (-21)), ((0, 4, 2, 0, 1, 0), (-294)), ((4, 3, 2, 0, 1, 0), 63), ((1, 3, 2, 0, 1, 0), (-3528)), ((5, 2, 2, 0, 1, 0), 189), ((2, 2, 2, 0, 1, 0), (-10584)), ((6, 1, 2, 0, 1, 0), 21), ((3, 1, 2, 0, 1, 0), (-9408)), ((0, 1, 2, 0, 1, 0), 16464), ((4, 0, 2, 0, 1, 0), (-882)), ((1, 0, 2, 0, 1, 0), 49392), ((5, 4, 0, 0, 1, 0), 84), ((2, 4, 0, 0, 1, 0), 588), ((6, 3, 0, 0, 1, 0), 28), ((3, 3, 0, 0, 1, 0), 6272), ((0, 3, 0, 0, 1, 0), 5488), ((4, 2, 0, 0, 1, 0), 7056), ((1, 2, 0, 0, 1, 0), 49392), ((5, 1, 0, 0, 1, 0), 2352), ((2, 1, 0, 0, 1, 0), 16464), ((6, 0, 0, 0, 1, 0), 196), ((3, 0, 0, 0, 1, 0), (-5488)), ((0, 0, 0, 0, 1, 0), (-307328)), ((3, 6, 3, 1, 0, 0), 1), ((0, 6, 3, 1, 0, 0), 7), ((4, 5, 3, 1, 0, 0), 3), ((1, 5, 3, 1, 0, 0), 84), ((2, 4, 3, 1, 0, 0), 252), ((3, 3, 3, 1, 0, 0), 224), ((0, 3, 3, 1, 0, 0), (-196)), ((4, 2, 3, 1, 0, 0), 21), ((1, 2, 3, 1, 0, 0), 588), ((2, 1, 3, 1, 0, 0), 1764), ((3, 0, 3, 1, 0, 0), 196), ((0, 0, 3, 1, 0, 0), (-10976)), ((4, 6, 2, 1, 0, 0), 3), ((1, 6, 2, 1, 0, 0), 21), ((2, 5, 2, 1, 0, 0), 189), ((3, 4, 2, 1, 0, 0), 63), ((0, 4, 2, 1, 0, 0), (-882)), ((4, 3, 2, 1, 0, 0), (-21)), ((1, 3, 2, 1, 0, 0), (-9408)), ((2, 2, 2, 1, 0, 0), (-10584)), ((3, 1, 2, 1, 0, 0), (-3528)), ((0, 1, 2, 1, 0, 0), 49392), ((4, 0, 2, 1, 0, 0), (-294)), ((1, 0, 2, 1, 0, 0), 16464), ((3, 6, 0, 1, 0, 0), 28), ((0, 6, 0, 1, 0, 0), 196), ((4, 5, 0, 1, 0, 0), 84), ((1, 5, 0, 1, 0, 0), 2352), ((2, 4, 0, 1, 0, 0), 7056), ((3, 3, 0, 1, 0, 0), 6272), ((0, 3, 0, 1, 0, 0), (-5488)), ((4, 2, 0, 1, 0, 0), 588), ((1, 2, 0, 1, 0, 0), 16464), ((2, 1, 0, 1, 0, 0), 49392), ((3, 0, 0, 1, 0, 0), 5488), ((0, 0, 0, 1, 0, 0), (-307328))]
def zl_R1 : zp_P := [((0, 3, 4, 1, 1, 1), (-168)), ((1, 2, 4, 1, 1, 1), (-126)), ((0, 0, 4, 1, 1, 1), 588), ((0, 4, 3, 1, 1, 1), (-168)), ((1, 3, 3, 1, 1, 1), (-420)), ((0, 1, 3, 1, 1, 1), 2352), ((1, 0, 3, 1, 1, 1), (-1176)), ((1, 4, 2, 1, 1, 1), (-126)), ((0, 2, 2, 1, 1, 1), 10584), ((1, 1, 2, 1, 1, 1), (-3528)), ((0, 3, 1, 1, 1, 1), 2352), ((1, 2, 1, 1, 1, 1), (-3528)), ((0, 0, 1, 1, 1, 1), 65856), ((0, 4, 0, 1, 1, 1), 588), ((1, 3, 0, 1, 1, 1), (-1176)), ((0, 1, 0, 1, 1, 1), 65856), ((1, 0, 0, 1, 1, 1), (-32928)), ((3, 6, 4, 0, 0, 1), 1), ((0, 6, 4, 0, 0, 1), (-14)), ((1, 5, 4, 0, 0, 1), (-126)), ((3, 3, 4, 0, 0, 1), (-7)), ((0, 3, 4, 0, 0, 1), 98), ((1, 2, 4, 0, 0, 1), (-882)), ((3, 0, 4, 0, 0, 1), (-98)), ((0, 0, 4, 0, 0, 1), 1372), ((1, 6, 3, 0, 0, 1), (-42)), ((3, 4, 3, 0, 0, 1), 21), ((0, 4, 3, 0, 0, 1), (-294)), ((1, 3, 3, 0, 0, 1), (-9408)), ((3, 1, 3, 0, 0, 1), (-1176)), ((0, 1, 3, 0, 0, 1), 16464), ((1, 0, 3, 0, 0, 1), (-8232)), ((3, 5, 2, 0, 0, 1), 63), ((0, 5, 2, 0, 0, 1), (-882)), ((1, 4, 2, 0, 0, 1), (-10584)), ((3, 2, 2, 0, 0, 1), (-3528)), ((0, 2, 2, 0, 0, 1), 49392), ((1, 1, 2, 0, 0, 1), (-74088)), ((3, 6, 1, 0, 0, 1), 7), ((0, 6, 1, 0, 0, 1), (-98)), ((1, 5, 1, 0, 0, 1), (-3528)), ((3, 3, 1, 0, 0, 1), (-3136)), ((0, 3, 1, 0, 0, 1), 43904), ((1, 2, 1, 0, 0, 1), (-24696)), ((3, 0, 1, 0, 0, 1), 5488), ((0, 0, 1, 0, 0, 1), (-76832)), ((1, 6, 0, 0, 0, 1), (-294)), ((3, 4, 0, 0, 0, 1), (-294)), ((0, 4, 0, 0, 0, 1), 4116), ((1, 3, 0, 0, 0, 1), 8232), ((3, 1, 0, 0, 0, 1), 16464), ((0, 1, 0, 0, 0, 1), (-230496)), ((1, 0, 0, 0, 0, 1), 460992), ((3, 4, 6, 0, 1, 0), 1), ((0, 4, 6, 0, 1, 0), (-14)), ((1, 3, 6, 0, 1, 0), (-42)), ((3, 1, 6, 0, 1, 0), 7), ((0, 1, 6, 0, 1, 0), (-98)), ((1, 0, 6, 0, 1, 0), (-294)), ((1, 4, 5, 0, 1, 0), (-126)), ((3, 2, 5, 0, 1, 0), 63), ((0, 2, 5, 0, 1, 0), (-882)), ((1, 1, 5, 0, 1, 0), (-3528)), ((3, 3, 4, 0, 1, 0), 21), ((0, 3, 4, 0, 1, 0), (-294)), ((1, 2, 4, 0, 1, 0), (-10584)), ((3, 0, 4, 0, 1, 0), (-294)), ((0, 0, 4, 0, 1, 0), 4116), ((3, 4, 3, 0, 1, 0), (-7)), ((0, 4, 3, 0, 1, 0), 98), ((1, 3, 3, 0, 1, 0), (-9408)), ((3, 1, 3, 0, 1, 0), (-3136)), ((0, 1, 3, 0, 1, 0), 43904), ((1, 0, 3, 0, 1, 0), 8232), ((1, 4, 2, 0, 1, 0), (-882)), ((3, 2, 2, 0, 1, 0), (-3528)), ((0, 2, 2, 0, 1, 0), 49392), ((1, 1, 2, 0, 1, 0), (-24696)), ((3, 3, 1, 0, 1, 0), (-1176)), ((0, 3, 1, 0, 1, 0), 16464), ((1, 2, 1, 0, 1, 0), (-74088)), ((3, 0, 1, 0, 1, 0), 16464), ((0, 0, 1, 0, 1, 0), (-230496)), ((3, 4, 0, 0, 1, 0), (-98)), ((0, 4, 0, 0, 1, 0), 1372), ((1, 3, 0, 0, 1, 0), (-8232)), ((3, 1, 0, 0, 1, 0), 5488), ((0, 1, 0, 0, 1, 0), (-76832)), ((1, 0, 0, 0, 1, 0), 460992), ((1, 6, 6, 1, 0, 0), 1), ((0, 4, 6, 1, 0, 0), (-42)), ((1, 3, 6, 1, 0, 0), (-7)), ((0, 1, 6, 1, 0, 0), (-294)), ((1, 0, 6, 1, 0, 0), (-98)), ((0, 5, 5, 1, 0, 0), (-252)), ((1, 4, 5, 1, 0, 0), (-189)), ((0, 2, 5, 1, 0, 0), 882), ((0, 6, 4, 1, 0, 0), (-42)), ((1, 5, 4, 1, 0, 0), (-189)), ((0, 3, 4, 1, 0, 0), 6468), ((0, 0, 4, 1, 0, 0), 28812), ((1, 6, 3, 1, 0, 0), (-7)), ((0, 4, 3, 1, 0, 0), 6468), ((1, 3, 3, 1, 0, 0), 4900), ((0, 1, 3, 1, 0, 0), 82320), ((1, 0, 3, 1, 0, 0), (-30184)), ((0, 5, 2, 1, 0, 0), 882), ((0, 2, 2, 1, 0, 0), 24696), ((1, 1, 2, 1, 0, 0), (-74088)), ((0, 6, 1, 1, 0, 0), (-294)), ((0, 3, 1, 1, 0, 0), 82320), ((1, 2, 1, 1, 0, 0), (-74088)), ((0, 0, 1, 1, 0, 0), 460992), ((1, 6, 0, 1, 0, 0), (-98)), ((0, 4, 0, 1, 0, 0), 28812), ((1, 3, 0, 1, 0, 0), (-30184)), ((0, 1, 0, 1, 0, 0), 460992), ((1, 0, 0, 1, 0, 0), (-76832))]
def zl_R2 : zp_P := [((1, 4, 4, 0, 1, 1), 126), ((2, 3, 4, 0, 1, 1), 252), ((0, 2, 4, 0, 1, 1), (-2646)), ((1, 1, 4, 0, 1, 1), (-1764)), ((2, 0, 4, 0, 1, 1), (-882)), ((2, 4, 3, 0, 1, 1), 252), ((0, 3, 3, 0, 1, 1), (-8820)), ((1, 2, 3, 0, 1, 1), (-5292)), ((2, 1, 3, 0, 1, 1), (-3528)), ((0, 0, 3, 0, 1, 1), (-24696)), ((0, 4, 2, 0, 1, 1), (-2646)), ((1, 3, 2, 0, 1, 1), (-5292)), ((2, 2, 2, 0, 1, 1), (-15876)), ((0, 1, 2, 0, 1, 1), (-74088)), ((1, 0, 2, 0, 1, 1), 74088), ((1, 4, 1, 0, 1, 1), (-1764)), ((2, 3, 1, 0, 1, 1), (-3528)), ((0, 2, 1, 0, 1, 1), (-74088)), ((1, 1, 1, 0, 1, 1), 246960), ((2, 0, 1, 0, 1, 1), (-98784)), ((2, 4, 0, 0, 1, 1), (-882)), ((0, 3, 0, 0, 1, 1), (-24696)), ((1, 2, 0, 0, 1, 1), 74088), ((2, 1, 0, 0, 1, 1), (-98784)), ((0, 0, 0, 0, 1, 1), (-691488)), ((3, 6, 6, 0, 0, 0), 1), ((0, 6, 6, 0, 0, 0), 7), ((1, 5, 6, 0, 0, 0), 63), ((2, 4, 6, 0, 0, 0), 63), ((3, 3, 6, 0, 0, 0), 14), ((0, 3, 6, 0, 0, 0), (-343)), ((1, 2, 6, 0, 0, 0), 441), ((2, 1, 6, 0, 0, 0), 441), ((3, 0, 6, 0, 0, 0), 49), ((0, 0, 6, 0, 0, 0), (-2744)), ((1, 6, 5, 0, 0, 0), 63), ((2, 5, 5, 0, 0, 0), 378), ((3, 4, 5, 0, 0, 0), 126), ((0, 4, 5, 0, 0, 0), (-5733)), ((1, 3, 5, 0, 0, 0), (-1764)), ((2, 2, 5, 0, 0, 0), (-1323)), ((3, 1, 5, 0, 0, 0), 882), ((0, 1, 5, 0, 0, 0), (-12348)), ((1, 0, 5, 0, 0, 0), 12348), ((2, 6, 4, 0, 0, 0), 63), ((3, 5, 4, 0, 0, 0), 126), ((0, 5, 4, 0, 0, 0), (-5733)), ((1, 4, 4, 0, 0, 0), (-10584)), ((2, 3, 4, 0, 0, 0), (-9702)), ((3, 2, 4, 0, 0, 0), 4851), ((0, 2, 4, 0, 0, 0), (-67914)), ((1, 1, 4, 0, 0, 0), 37044), ((2, 0, 4, 0, 0, 0), (-43218)), ((3, 6, 3, 0, 0, 0), 14), ((0, 6, 3, 0, 0, 0), (-343)), ((1, 5, 3, 0, 0, 0), (-1764)), ((2, 4, 3, 0, 0, 0), (-9702)), ((3, 3, 3, 0, 0, 0), 7252), ((0, 3, 3, 0, 0, 0), 1372), ((1, 2, 3, 0, 0, 0), 98784), ((2, 1, 3, 0, 0, 0), (-123480)), ((3, 0, 3, 0, 0, 0), (-5488)), ((0, 0, 3, 0, 0, 0), (-557032)), ((1, 6, 2, 0, 0, 0), 441), ((2, 5, 2, 0, 0, 0), (-1323)), ((3, 4, 2, 0, 0, 0), 4851), ((0, 4, 2, 0, 0, 0), (-67914)), ((1, 3, 2, 0, 0, 0), 98784), ((2, 2, 2, 0, 0, 0), (-37044)), ((3, 1, 2, 0, 0, 0), (-49392)), ((0, 1, 2, 0, 0, 0), (-864360)), ((1, 0, 2, 0, 0, 0), 864360), ((2, 6, 1, 0, 0, 0), 441), ((3, 5, 1, 0, 0, 0), 882), ((0, 5, 1, 0, 0, 0), (-12348)), ((1, 4, 1, 0, 0, 0), 37044), ((2, 3, 1, 0, 0, 0), (-123480)), ((3, 2, 1, 0, 0, 0), (-49392)), ((0, 2, 1, 0, 0, 0), (-864360)), ((1, 1, 1, 0, 0, 0), 1037232), ((2, 0, 1, 0, 0, 0), (-691488)), ((3, 6, 0, 0, 0, 0), 49), ((0, 6, 0, 0, 0, 0), (-2744)), ((1, 5, 0, 0, 0, 0), 12348), ((2, 4, 0, 0, 0, 0), (-43218)), ((3, 3, 0, 0, 0, 0), (-5488)), ((0, 3, 0, 0, 0, 0), (-557032)), ((1, 2, 0, 0, 0, 0), 864360), ((2, 1, 0, 0, 0, 0), (-691488)), ((3, 0, 0, 0, 0, 0), 153664), ((0, 0, 0, 0, 0, 0), (-3764768))]
def zl_R3 : zp_P := [((1, 4, 4, 1, 1, 1), 6), ((0, 2, 4, 1, 1, 1), 126), ((1, 1, 4, 1, 1, 1), (-84)), ((0, 3, 3, 1, 1, 1), 420), ((1, 2, 3, 1, 1, 1), (-252)), ((0, 0, 3, 1, 1, 1), 1176), ((0, 4, 2, 1, 1, 1), 126), ((1, 3, 2, 1, 1, 1), (-252)), ((0, 1, 2, 1, 1, 1), 3528), ((1, 0, 2, 1, 1, 1), 3528), ((1, 4, 1, 1, 1, 1), (-84)), ((0, 2, 1, 1, 1, 1), 3528), ((1, 1, 1, 1, 1, 1), 11760), ((0, 3, 0, 1, 1, 1), 1176), ((1, 2, 0, 1, 1, 1), 3528), ((0, 0, 0, 1, 1, 1), 32928), ((2, 6, 4, 0, 0, 1), 3), ((3, 5, 4, 0, 0, 1), 3), ((0, 5, 4, 0, 0, 1), 84), ((2, 3, 4, 0, 0, 1), (-21)), ((3, 2, 4, 0, 0, 1), 21), ((0, 2, 4, 0, 0, 1), 588), ((2, 0, 4, 0, 0, 1), (-294)), ((3, 6, 3, 0, 0, 1), 1), ((0, 6, 3, 0, 0, 1), 28), ((2, 4, 3, 0, 0, 1), 63), ((3, 3, 3, 0, 0, 1), 224), ((0, 3, 3, 0, 0, 1), 6272), ((2, 1, 3, 0, 0, 1), (-3528)), ((3, 0, 3, 0, 0, 1), 196), ((0, 0, 3, 0, 0, 1), 5488), ((2, 5, 2, 0, 0, 1), 189), ((3, 4, 2, 0, 0, 1), 252), ((0, 4, 2, 0, 0, 1), 7056), ((2, 2, 2, 0, 0, 1), (-10584)), ((3, 1, 2, 0, 0, 1), 1764), ((0, 1, 2, 0, 0, 1), 49392), ((2, 6, 1, 0, 0, 1), 21), ((3, 5, 1, 0, 0, 1), 84), ((0, 5, 1, 0, 0, 1), 2352), ((2, 3, 1, 0, 0, 1), (-9408)), ((3, 2, 1, 0, 0, 1), 588), ((0, 2, 1, 0, 0, 1), 16464), ((2, 0, 1, 0, 0, 1), 16464), ((3, 6, 0, 0, 0, 1), 7), ((0, 6, 0, 0, 0, 1), 196), ((2, 4, 0, 0, 0, 1), (-882)), ((3, 3, 0, 0, 0, 1), (-196)), ((0, 3, 0, 0, 0, 1), (-5488)), ((2, 1, 0, 0, 0, 1), 49392), ((3, 0, 0, 0, 0, 1), (-10976)), ((0, 0, 0, 0, 0, 1), (-307328)), ((2, 4, 6, 0, 1, 0), 3), ((3, 3, 6, 0, 1, 0), 1), ((0, 3, 6, 0, 1, 0), 28), ((2, 1, 6, 0, 1, 0), 21), ((3, 0, 6, 0, 1, 0), 7), ((0, 0, 6, 0, 1, 0), 196), ((3, 4, 5, 0, 1, 0), 3), ((0, 4, 5, 0, 1, 0), 84), ((2, 2, 5, 0, 1, 0), 189), ((3, 1, 5, 0, 1, 0), 84), ((0, 1, 5, 0, 1, 0), 2352), ((2, 3, 4, 0, 1, 0), 63), ((3, 2, 4, 0, 1, 0), 252), ((0, 2, 4, 0, 1, 0), 7056), ((2, 0, 4, 0, 1, 0), (-882)), ((2, 4, 3, 0, 1, 0), (-21)), ((3, 3, 3, 0, 1, 0), 224), ((0, 3, 3, 0, 1, 0), 6272), ((2, 1, 3, 0, 1, 0), (-9408)), ((3, 0, 3, 0, 1, 0), (-196)), ((0, 0, 3, 0, 1, 0), (-5488)), ((3, 4, 2, 0, 1, 0), 21), ((0, 4, 2, 0, 1, 0), 588), ((2, 2, 2, 0, 1, 0), (-10584)), ((3, 1, 2, 0, 1, 0), 588), ((0, 1, 2, 0, 1, 0), 16464), ((2, 3, 1, 0, 1, 0), (-3528)), ((3, 2, 1, 0, 1, 0), 1764), ((0, 2, 1, 0, 1, 0), 49392), ((2, 0, 1, 0, 1, 0), 49392), ((2, 4, 0, 0, 1, 0), (-294)), ((3, 3, 0, 0, 1, 0), 196), ((0, 3, 0, 0, 1, 0), 5488), ((2, 1, 0, 0, 1, 0), 16464), ((3, 0, 0, 0, 1, 0), (-10976)), ((0, 0, 0, 0, 1, 0), (-307328)), ((0, 6, 6, 1, 0, 0), 1), ((1, 5, 6, 1, 0, 0), 3), ((0, 3, 6, 1, 0, 0), 35), ((1, 2, 6, 1, 0, 0), 21), ((0, 0, 6, 1, 0, 0), 196), ((1, 6, 5, 1, 0, 0), 3), ((0, 4, 5, 1, 0, 0), 441), ((1, 3, 5, 1, 0, 0), (-84)), ((0, 1, 5, 1, 0, 0), 1764), ((1, 0, 5, 1, 0, 0), 588), ((0, 5, 4, 1, 0, 0), 441), ((1, 4, 4, 1, 0, 0), (-504)), ((0, 2, 4, 1, 0, 0), 9702), ((1, 1, 4, 1, 0, 0), 1764), ((0, 6, 3, 1, 0, 0), 35), ((1, 5, 3, 1, 0, 0), (-84)), ((0, 3, 3, 1, 0, 0), 9604), ((1, 2, 3, 1, 0, 0), 4704), ((0, 0, 3, 1, 0, 0), 19208), ((1, 6, 2, 1, 0, 0), 21), ((0, 4, 2, 1, 0, 0), 9702), ((1, 3, 2, 1, 0, 0), 4704), ((0, 1, 2, 1, 0, 0), (-24696)), ((1, 0, 2, 1, 0, 0), 41160), ((0, 5, 1, 1, 0, 0), 1764), ((1, 4, 1, 1, 0, 0), 1764), ((0, 2, 1, 1, 0, 0), (-24696)), ((1, 1, 1, 1, 0, 0), 49392), ((0, 6, 0, 1, 0, 0), 196), ((1, 5, 0, 1, 0, 0), 588), ((0, 3, 0, 1, 0, 0), 19208), ((1, 2, 0, 1, 0, 0), 41160), ((0, 0, 0, 1, 0, 0), 384160)]
set_option maxRecDepth 100000 in
set_option maxHeartbeats 4000000 in
theorem zl_u1 : (zp_sb (zp_X zp_p1 zp_p2) zl_U1).isEmpty = true := by decide +kernel
set_option maxRecDepth 100000 in
set_option maxHeartbeats 4000000 in
theorem zl_v1 : (zp_sb (zp_X zp_p2 zp_p3) zl_V1).isEmpty = true := by decide +kernel
set_option maxRecDepth 100000 in
set_option maxHeartbeats 4000000 in
theorem zl_l1 : (zp_sb (zp_X (zl_U1, zl_U2, zl_U3) zp_p3) zl_L1).isEmpty = true := by decide +kernel
set_option maxRecDepth 100000 in
set_option maxHeartbeats 4000000 in
theorem zl_r1 : (zp_sb (zp_X zp_p1 (zl_V1, zl_V2, zl_V3)) zl_R1).isEmpty = true := by decide +kernel
set_option maxRecDepth 100000 in
set_option maxHeartbeats 4000000 in
theorem zl_u2 : (zp_sb (zp_Y zp_p1 zp_p2) zl_U2).isEmpty = true := by decide +kernel
set_option maxRecDepth 100000 in
set_option maxHeartbeats 4000000 in
theorem zl_v2 : (zp_sb (zp_Y zp_p2 zp_p3) zl_V2).isEmpty = true := by decide +kernel
set_option maxRecDepth 100000 in
set_option maxHeartbeats 4000000 in
theorem zl_l2 : (zp_sb (zp_Y (zl_U1, zl_U2, zl_U3) zp_p3) zl_L2).isEmpty = true := by decide +kernel
set_option maxRecDepth 100000 in
set_option maxHeartbeats 4000000 in
theorem zl_r2 : (zp_sb (zp_Y zp_p1 (zl_V1, zl_V2, zl_V3)) zl_R2).isEmpty = true := by decide +kernel
set_option maxRecDepth 100000 in
set_option maxHeartbeats 4000000 in
theorem zl_u3 : (zp_sb (zp_Z zp_p1 zp_p2) zl_U3).isEmpty = true := by decide +kernel
set_option maxRecDepth 100000 in
set_option maxHeartbeats 4000000 in
theorem zl_v3 : (zp_sb (zp_Z zp_p2 zp_p3) zl_V3).isEmpty = true := by decide +kernel
set_option maxRecDepth 100000 in
set_option maxHeartbeats 4000000 in
theorem zl_l3 : (zp_sb (zp_Z (zl_U1, zl_U2, zl_U3) zp_p3) zl_L3).isEmpty = true := by decide +kernel
set_option maxRecDepth 100000 in
set_option maxHeartbeats 4000000 in
theorem zl_r3 : (zp_sb (zp_Z zp_p1 (zl_V1, zl_V2, zl_V3)) zl_R3).isEmpty = true := by decide +kernel
set_option maxRecDepth 100000 in
set_option maxHeartbeats 4000000 in
theorem zl_as1 : (zp_sb (zp_mv 7 zl_L1 zl_R3) (zp_mv 7 zl_R1 zl_L3)).isEmpty = true := by decide +kernel
set_option maxRecDepth 100000 in
set_option maxHeartbeats 4000000 in
theorem zl_as2 : (zp_sb (zp_mv 7 zl_L2 zl_R3) (zp_mv 7 zl_R2 zl_L3)).isEmpty = true := by decide +kernel
theorem zl_zero {K : Type} [Lean.Grind.CommRing K] {x1 x2 x3 y1 y2 y3 : K} {p q : zp_P} (h : (zp_sb p q).isEmpty = true) : zp_ev x1 x2 x3 y1 y2 y3 p = zp_ev x1 x2 x3 y1 y2 y3 q := by
  have h9 := zp_zero (x1 := x1) (x2 := x2) (x3 := x3) (y1 := y1) (y2 := y2) (y3 := y3) h
  rw [zp_ev_sb] at h9
  exact ec_sub0 h9
theorem zl_U {K : Type} [Lean.Grind.CommRing K] {x1 x2 x3 y1 y2 y3 : K} (h1 : y1 * y1 = x1 * x1 * x1 + 7) (h2 : y2 * y2 = x2 * x2 * x2 + 7) (h3 : y3 * y3 = x3 * x3 * x3 + 7) : zp_et x1 x2 x3 y1 y2 y3 (zl_U1, zl_U2, zl_U3) = ec_C (x1, y1, 1) (x2, y2, 1) := by
  show (zp_ev x1 x2 x3 y1 y2 y3 zl_U1, zp_ev x1 x2 x3 y1 y2 y3 zl_U2, zp_ev x1 x2 x3 y1 y2 y3 zl_U3) = _
  rw [← zl_zero zl_u1, ← zl_zero zl_u2, ← zl_zero zl_u3, zp_ev_X h1 h2 h3, zp_ev_Y h1 h2 h3, zp_ev_Z h1 h2 h3, zp_et_p1, zp_et_p2]
  rfl
theorem zl_V {K : Type} [Lean.Grind.CommRing K] {x1 x2 x3 y1 y2 y3 : K} (h1 : y1 * y1 = x1 * x1 * x1 + 7) (h2 : y2 * y2 = x2 * x2 * x2 + 7) (h3 : y3 * y3 = x3 * x3 * x3 + 7) : zp_et x1 x2 x3 y1 y2 y3 (zl_V1, zl_V2, zl_V3) = ec_C (x2, y2, 1) (x3, y3, 1) := by
  show (zp_ev x1 x2 x3 y1 y2 y3 zl_V1, zp_ev x1 x2 x3 y1 y2 y3 zl_V2, zp_ev x1 x2 x3 y1 y2 y3 zl_V3) = _
  rw [← zl_zero zl_v1, ← zl_zero zl_v2, ← zl_zero zl_v3, zp_ev_X h1 h2 h3, zp_ev_Y h1 h2 h3, zp_ev_Z h1 h2 h3, zp_et_p2, zp_et_p3]
  rfl
theorem zl_LX {K : Type} [Lean.Grind.CommRing K] {x1 x2 x3 y1 y2 y3 : K} (h1 : y1 * y1 = x1 * x1 * x1 + 7) (h2 : y2 * y2 = x2 * x2 * x2 + 7) (h3 : y3 * y3 = x3 * x3 * x3 + 7) : zp_ev x1 x2 x3 y1 y2 y3 zl_L1 = ec_X (ec_C (x1, y1, 1) (x2, y2, 1)) (x3, y3, 1) := by
  rw [← zl_zero zl_l1, zp_ev_X h1 h2 h3, zl_U h1 h2 h3, zp_et_p3]
theorem zl_RX {K : Type} [Lean.Grind.CommRing K] {x1 x2 x3 y1 y2 y3 : K} (h1 : y1 * y1 = x1 * x1 * x1 + 7) (h2 : y2 * y2 = x2 * x2 * x2 + 7) (h3 : y3 * y3 = x3 * x3 * x3 + 7) : zp_ev x1 x2 x3 y1 y2 y3 zl_R1 = ec_X (x1, y1, 1) (ec_C (x2, y2, 1) (x3, y3, 1)) := by
  rw [← zl_zero zl_r1, zp_ev_X h1 h2 h3, zl_V h1 h2 h3, zp_et_p1]
theorem zl_LY {K : Type} [Lean.Grind.CommRing K] {x1 x2 x3 y1 y2 y3 : K} (h1 : y1 * y1 = x1 * x1 * x1 + 7) (h2 : y2 * y2 = x2 * x2 * x2 + 7) (h3 : y3 * y3 = x3 * x3 * x3 + 7) : zp_ev x1 x2 x3 y1 y2 y3 zl_L2 = ec_Y (ec_C (x1, y1, 1) (x2, y2, 1)) (x3, y3, 1) := by
  rw [← zl_zero zl_l2, zp_ev_Y h1 h2 h3, zl_U h1 h2 h3, zp_et_p3]
theorem zl_RY {K : Type} [Lean.Grind.CommRing K] {x1 x2 x3 y1 y2 y3 : K} (h1 : y1 * y1 = x1 * x1 * x1 + 7) (h2 : y2 * y2 = x2 * x2 * x2 + 7) (h3 : y3 * y3 = x3 * x3 * x3 + 7) : zp_ev x1 x2 x3 y1 y2 y3 zl_R2 = ec_Y (x1, y1, 1) (ec_C (x2, y2, 1) (x3, y3, 1)) := by
  rw [← zl_zero zl_r2, zp_ev_Y h1 h2 h3, zl_V h1 h2 h3, zp_et_p1]
theorem zl_LZ {K : Type} [Lean.Grind.CommRing K] {x1 x2 x3 y1 y2 y3 : K} (h1 : y1 * y1 = x1 * x1 * x1 + 7) (h2 : y2 * y2 = x2 * x2 * x2 + 7) (h3 : y3 * y3 = x3 * x3 * x3 + 7) : zp_ev x1 x2 x3 y1 y2 y3 zl_L3 = ec_Z (ec_C (x1, y1, 1) (x2, y2, 1)) (x3, y3, 1) := by
  rw [← zl_zero zl_l3, zp_ev_Z h1 h2 h3, zl_U h1 h2 h3, zp_et_p3]
theorem zl_RZ {K : Type} [Lean.Grind.CommRing K] {x1 x2 x3 y1 y2 y3 : K} (h1 : y1 * y1 = x1 * x1 * x1 + 7) (h2 : y2 * y2 = x2 * x2 * x2 + 7) (h3 : y3 * y3 = x3 * x3 * x3 + 7) : zp_ev x1 x2 x3 y1 y2 y3 zl_R3 = ec_Z (x1, y1, 1) (ec_C (x2, y2, 1) (x3, y3, 1)) := by
  rw [← zl_zero zl_r3, zp_ev_Z h1 h2 h3, zl_V h1 h2 h3, zp_et_p1]
theorem ec_asX {K : Type} [Lean.Grind.CommRing K] {x1 x2 x3 y1 y2 y3 : K} (h1 : y1 * y1 = x1 * x1 * x1 + 7) (h2 : y2 * y2 = x2 * x2 * x2 + 7) (h3 : y3 * y3 = x3 * x3 * x3 + 7) :
    ec_X (ec_C (x1, y1, 1) (x2, y2, 1)) (x3, y3, 1) * ec_Z (x1, y1, 1) (ec_C (x2, y2, 1) (x3, y3, 1)) = ec_X (x1, y1, 1) (ec_C (x2, y2, 1) (x3, y3, 1)) * ec_Z (ec_C (x1, y1, 1) (x2, y2, 1)) (x3, y3, 1) := by
  have h := zl_zero (x1 := x1) (x2 := x2) (x3 := x3) (y1 := y1) (y2 := y2) (y3 := y3) zl_as1
  rw [zp_ev_mv h1 h2 h3, zp_ev_mv h1 h2 h3, zl_LX h1 h2 h3, zl_RZ h1 h2 h3, zl_RX h1 h2 h3, zl_LZ h1 h2 h3] at h
  exact h
theorem ec_asY {K : Type} [Lean.Grind.CommRing K] {x1 x2 x3 y1 y2 y3 : K} (h1 : y1 * y1 = x1 * x1 * x1 + 7) (h2 : y2 * y2 = x2 * x2 * x2 + 7) (h3 : y3 * y3 = x3 * x3 * x3 + 7) :
    ec_Y (ec_C (x1, y1, 1) (x2, y2, 1)) (x3, y3, 1) * ec_Z (x1, y1, 1) (ec_C (x2, y2, 1) (x3, y3, 1)) = ec_Y (x1, y1, 1) (ec_C (x2, y2, 1) (x3, y3, 1)) * ec_Z (ec_C (x1, y1, 1) (x2, y2, 1)) (x3, y3, 1) := by
  have h := zl_zero (x1 := x1) (x2 := x2) (x3 := x3) (y1 := y1) (y2 := y2) (y3 := y3) zl_as2
  rw [zp_ev_mv h1 h2 h3, zp_ev_mv h1 h2 h3, zl_LY h1 h2 h3, zl_RZ h1 h2 h3, zl_RY h1 h2 h3, zl_LZ h1 h2 h3] at h
  exact h
end
section
/-! The addition itself, and its laws. -/
def ec_ln {K : Type} [Lean.Grind.CommRing K] (l x1 y1 x2 : K) : K × K := (l * l - x1 - x2, l * (x1 - (l * l - x1 - x2)) - y1)
def ec_ad {K : Type} [Lean.Grind.CommRing K] [DecidableEq K] (iv : K → K) : Option (K × K) → Option (K × K) → Option (K × K)
  | none, Q => Q
  | some p, none => some p
  | some p, some q => if p.1 = q.1 then (if p.2 = q.2 then some (ec_ln (3 * (p.1 * p.1) * iv (p.2 + p.2)) p.1 p.2 p.1) else none) else some (ec_ln ((q.2 - p.2) * iv (q.1 - p.1)) p.1 p.2 q.1)
theorem ec_ad_some {K : Type} [Lean.Grind.CommRing K] [DecidableEq K] (iv : K → K) (x1 y1 x2 y2 : K) : ec_ad iv (some (x1, y1)) (some (x2, y2)) = if x1 = x2 then (if y1 = y2 then some (ec_ln (3 * (x1 * x1) * iv (y1 + y1)) x1 y1 x1) else none) else some (ec_ln ((y2 - y1) * iv (x2 - x1)) x1 y1 x2) := rfl
def ec_on {K : Type} [Lean.Grind.CommRing K] (P : Option (K × K)) : Prop := ∀ p, P = some p → p.2 * p.2 = p.1 * p.1 * p.1 + 7
def ec_R {K : Type} [Lean.Grind.CommRing K] (P : Option (K × K)) (u : ec_T K) : Prop := match P with
  | none => u.1 = 0 ∧ u.2.1 ≠ 0 ∧ u.2.2 = 0
  | some p => u.2.2 ≠ 0 ∧ u.1 = p.1 * u.2.2 ∧ u.2.1 = p.2 * u.2.2
/-- what is asked of the field -/
def ec_F (K : Type) [Lean.Grind.CommRing K] (iv : K → K) : Prop := (∀ a b : K, a * b = 0 → a = 0 ∨ b = 0) ∧ (∀ a : K, a ≠ 0 → iv a * a = 1) ∧ (∀ x : K, x * x * x + 7 ≠ 0) ∧ (2 : K) ≠ 0 ∧ (1 : K) ≠ 0
theorem ec_y0 {K : Type} [Lean.Grind.CommRing K] {iv : K → K} (hF : ec_F K iv) {x y : K} (h : y * y = x * x * x + 7) : y ≠ 0 := by
  intro h0
  refine hF.2.2.1 x ?_
  rw [← h, h0]
  grind
theorem ec_yy {K : Type} [Lean.Grind.CommRing K] {iv : K → K} (hF : ec_F K iv) {x y : K} (h : y * y = x * x * x + 7) : y + y ≠ 0 := by
  intro h0
  have h1 : 2 * y = 0 := by grind
  rcases hF.1 _ _ h1 with h2 | h2
  · exact hF.2.2.2.1 h2
  · exact ec_y0 hF h h2
theorem ec_line {K : Type} [Lean.Grind.CommRing K] {iv : K → K} (hF : ec_F K iv) {d n l x1 y1 x2 : K} (hd : d ≠ 0) (hl : l = n * iv d) :
    d * d * (ec_ln l x1 y1 x2).1 = ec_nx d n x1 x2 ∧ d * d * d * (ec_ln l x1 y1 x2).2 = ec_ny d n x1 x2 y1 := by
  have h1 : l * d = n := by
    have h2 := hF.2.1 d hd
    rw [hl]
    grind
  have e1 : d * d * (ec_ln l x1 y1 x2).1 = ec_nx d n x1 x2 := by
    have h3 : d * d * (l * l - x1 - x2) = (l * d) * (l * d) - (x1 + x2) * (d * d) := by grind
    show d * d * (l * l - x1 - x2) = n * n - (x1 + x2) * (d * d)
    rw [h3, h1]
  refine ⟨e1, ?_⟩
  have h4 : d * d * d * (l * (x1 - (l * l - x1 - x2)) - y1) = (l * d) * (x1 * (d * d) - d * d * (l * l - x1 - x2)) - y1 * (d * d * d) := by grind
  show d * d * d * (l * (x1 - (l * l - x1 - x2)) - y1) = n * (x1 * (d * d) - ec_nx d n x1 x2) - y1 * (d * d * d)
  rw [h4, h1, ← e1]
  rfl
/-- from numerators to the curve -/
theorem ec_close {K : Type} [Lean.Grind.CommRing K] {iv : K → K} (hF : ec_F K iv) {d a b x y : K} (hd : d ≠ 0) (ex : d * d * x = a) (ey : d * d * d * y = b) (h : b * b = a * a * a + 7 * (d * d * d * (d * d * d))) : y * y = x * x * x + 7 := by
  have h3 : d * d * d * (d * d * d) ≠ 0 := ec_mulne hF.1 (ec_mulne hF.1 (ec_mulne hF.1 hd hd) hd) (ec_mulne hF.1 (ec_mulne hF.1 hd hd) hd)
  refine ec_canc hF.1 h3 ?_
  have e1 : d * d * d * (d * d * d) * (y * y) = (d * d * d * y) * (d * d * d * y) := by grind
  have e2 : d * d * d * (d * d * d) * (x * x * x + 7) = (d * d * x) * (d * d * x) * (d * d * x) + 7 * (d * d * d * (d * d * d)) := by grind
  rw [e1, e2, ex, ey, h]
theorem ec_neq {K : Type} [Lean.Grind.CommRing K] {a b : K} (h : a ≠ b) : b - a ≠ 0 := fun h0 => h (by grind)
theorem ec_chord {K : Type} [Lean.Grind.CommRing K] {iv : K → K} (hF : ec_F K iv) {x1 y1 x2 y2 : K} (h1 : y1 * y1 = x1 * x1 * x1 + 7) (h2 : y2 * y2 = x2 * x2 * x2 + 7) (hx : x1 ≠ x2) :
    (ec_ln ((y2 - y1) * iv (x2 - x1)) x1 y1 x2).2 * (ec_ln ((y2 - y1) * iv (x2 - x1)) x1 y1 x2).2 = (ec_ln ((y2 - y1) * iv (x2 - x1)) x1 y1 x2).1 * (ec_ln ((y2 - y1) * iv (x2 - x1)) x1 y1 x2).1 * (ec_ln ((y2 - y1) * iv (x2 - x1)) x1 y1 x2).1 + 7 := by
  obtain ⟨ex, ey⟩ := ec_line hF (d := x2 - x1) (n := y2 - y1) (x1 := x1) (y1 := y1) (x2 := x2) (ec_neq hx) rfl
  exact ec_close hF (ec_neq hx) ex ey (ec_i4 h1 h2)
theorem ec_tang {K : Type} [Lean.Grind.CommRing K] {iv : K → K} (hF : ec_F K iv) {x1 y1 : K} (h1 : y1 * y1 = x1 * x1 * x1 + 7) :
    (ec_ln (3 * (x1 * x1) * iv (y1 + y1)) x1 y1 x1).2 * (ec_ln (3 * (x1 * x1) * iv (y1 + y1)) x1 y1 x1).2 = (ec_ln (3 * (x1 * x1) * iv (y1 + y1)) x1 y1 x1).1 * (ec_ln (3 * (x1 * x1) * iv (y1 + y1)) x1 y1 x1).1 * (ec_ln (3 * (x1 * x1) * iv (y1 + y1)) x1 y1 x1).1 + 7 := by
  obtain ⟨ex, ey⟩ := ec_line hF (d := y1 + y1) (n := 3 * (x1 * x1)) (x1 := x1) (y1 := y1) (x2 := x1) (ec_yy hF h1) rfl
  exact ec_close hF (ec_yy hF h1) ex ey (ec_i8 h1)
theorem ec_on_ad {K : Type} [Lean.Grind.CommRing K] [DecidableEq K] {iv : K → K} (hF : ec_F K iv) {P Q : Option (K × K)} (hP : ec_on P) (hQ : ec_on Q) : ec_on (ec_ad iv P Q) := by
  cases P with
  | none => exact hQ
  | some p =>
    cases Q with
    | none => exact hP
    | some q =>
      obtain ⟨x1, y1⟩ := p
      obtain ⟨x2, y2⟩ := q
      have h1 := hP (x1, y1) rfl
      have h2 := hQ (x2, y2) rfl
      rw [ec_ad_some]
      by_cases hx : x1 = x2
      · rw [if_pos hx]
        by_cases hy : y1 = y2
        · rw [if_pos hy]
          intro r hr
          cases hr
          exact ec_tang hF h1
        · rw [if_neg hy]
          intro r hr
          cases hr
      · rw [if_neg hx]
        intro r hr
        cases hr
        exact ec_chord hF h1 h2 hx
theorem ec_Zne {K : Type} [Lean.Grind.CommRing K] {iv : K → K} (hF : ec_F K iv) {x1 y1 x2 y2 : K} (h1 : y1 * y1 = x1 * x1 * x1 + 7) (h2 : y2 * y2 = x2 * x2 * x2 + 7) (hx : x1 ≠ x2) : ec_Z (x1, y1, 1) (x2, y2, 1) ≠ 0 := by
  rw [← ec_i3 h1 h2]
  have h3 : (-y2) * (-y2) = x2 * x2 * x2 + 7 := by rw [← h2]; grind
  obtain ⟨-, ey⟩ := ec_line hF (d := x2 - x1) (n := -y2 - y1) (x1 := x1) (y1 := y1) (x2 := x2) (ec_neq hx) rfl
  rw [← ey]
  exact ec_mulne hF.1 (ec_mulne hF.1 (ec_mulne hF.1 (ec_neq hx) (ec_neq hx)) (ec_neq hx)) (ec_y0 hF (ec_chord hF h1 h3 hx))
theorem ec_rep1 {K : Type} [Lean.Grind.CommRing K] [DecidableEq K] {iv : K → K} (hF : ec_F K iv) {x1 y1 x2 y2 : K} (h1 : y1 * y1 = x1 * x1 * x1 + 7) (h2 : y2 * y2 = x2 * x2 * x2 + 7) : ec_R (ec_ad iv (some (x1, y1)) (some (x2, y2))) (ec_C (x1, y1, 1) (x2, y2, 1)) := by
  rw [ec_ad_some]
  by_cases hx : x1 = x2
  · rw [if_pos hx]
    subst hx
    by_cases hy : y1 = y2
    · rw [if_pos hy]
      subst hy
      have hd := ec_yy hF h1
      obtain ⟨ex, ey⟩ := ec_line hF (d := y1 + y1) (n := 3 * (x1 * x1)) (x1 := x1) (y1 := y1) (x2 := x1) hd rfl
      refine ⟨?_, ?_, ?_⟩
      · show ec_Z (x1, y1, 1) (x1, y1, 1) ≠ 0
        rw [ec_i7 h1]
        exact ec_mulne hF.1 (ec_mulne hF.1 hd hd) hd
      · refine ec_canc hF.1 (ec_mulne hF.1 hd hd) ?_
        show (y1 + y1) * (y1 + y1) * ec_X (x1, y1, 1) (x1, y1, 1) = (y1 + y1) * (y1 + y1) * ((ec_ln (3 * (x1 * x1) * iv (y1 + y1)) x1 y1 x1).1 * ec_Z (x1, y1, 1) (x1, y1, 1))
        rw [ec_i5 h1, ← ex]
        grind
      · refine ec_canc hF.1 (ec_mulne hF.1 (ec_mulne hF.1 hd hd) hd) ?_
        show (y1 + y1) * (y1 + y1) * (y1 + y1) * ec_Y (x1, y1, 1) (x1, y1, 1) = (y1 + y1) * (y1 + y1) * (y1 + y1) * ((ec_ln (3 * (x1 * x1) * iv (y1 + y1)) x1 y1 x1).2 * ec_Z (x1, y1, 1) (x1, y1, 1))
        rw [ec_i6 h1, ← ey]
        grind
    · rw [if_neg hy]
      have h3 : (y1 - y2) * (y1 + y2) = 0 := by grind
      have h4 : y2 = -y1 := by
        rcases hF.1 _ _ h3 with h5 | h5
        · exact absurd (ec_sub0 h5) hy
        · grind
      subst h4
      refine ⟨?_, ?_, ?_⟩
      · show ec_X (x1, y1, 1) (x1, -y1, 1) = 0
        simp only [ec_X]
        grind
      · show ec_Y (x1, y1, 1) (x1, -y1, 1) ≠ 0
        rw [ec_i9 h1]
        have hd := ec_yy hF h1
        obtain ⟨-, ey⟩ := ec_line hF (d := y1 + y1) (n := 3 * (x1 * x1)) (x1 := x1) (y1 := y1) (x2 := x1) hd rfl
        rw [← ey]
        exact ec_mulne hF.1 (ec_mulne hF.1 (ec_mulne hF.1 hd hd) hd) (ec_y0 hF (ec_tang hF h1))
      · show ec_Z (x1, y1, 1) (x1, -y1, 1) = 0
        simp only [ec_Z]
        grind
  · rw [if_neg hx]
    have hd := ec_neq hx
    obtain ⟨ex, ey⟩ := ec_line hF (d := x2 - x1) (n := y2 - y1) (x1 := x1) (y1 := y1) (x2 := x2) hd rfl
    refine ⟨ec_Zne hF h1 h2 hx, ?_, ?_⟩
    · refine ec_canc hF.1 (ec_mulne hF.1 hd hd) ?_
      show (x2 - x1) * (x2 - x1) * ec_X (x1, y1, 1) (x2, y2, 1) = (x2 - x1) * (x2 - x1) * ((ec_ln ((y2 - y1) * iv (x2 - x1)) x1 y1 x2).1 * ec_Z (x1, y1, 1) (x2, y2, 1))
      rw [ec_i1 h1 h2, ← ex]
      grind
    · refine ec_canc hF.1 (ec_mulne hF.1 (ec_mulne hF.1 hd hd) hd) ?_
      show (x2 - x1) * (x2 - x1) * (x2 - x1) * ec_Y (x1, y1, 1) (x2, y2, 1) = (x2 - x1) * (x2 - x1) * (x2 - x1) * ((ec_ln ((y2 - y1) * iv (x2 - x1)) x1 y1 x2).2 * ec_Z (x1, y1, 1) (x2, y2, 1))
      rw [ec_i2 h1 h2, ← ey]
      grind
def ec_sm {K : Type} [Lean.Grind.CommRing K] (a : K) (u : ec_T K) : ec_T K := (a * u.1, a * u.2.1, a * u.2.2)
theorem ec_R_sm {K : Type} [Lean.Grind.CommRing K] {iv : K → K} (hF : ec_F K iv) {a : K} (ha : a ≠ 0) {P : Option (K × K)} {u : ec_T K} (h : ec_R P u) : ec_R P (ec_sm a u) := by
  cases P with
  | none =>
    obtain ⟨h1, h2, h3⟩ := h
    refine ⟨?_, ec_mulne hF.1 ha h2, ?_⟩
    · show a * u.1 = 0
      rw [h1]; grind
    · show a * u.2.2 = 0
      rw [h3]; grind
  | some p =>
    obtain ⟨h1, h2, h3⟩ := h
    refine ⟨ec_mulne hF.1 ha h1, ?_, ?_⟩
    · show a * u.1 = p.1 * (a * u.2.2)
      rw [h2]; grind
    · show a * u.2.1 = p.2 * (a * u.2.2)
      rw [h3]; grind
theorem ec_sm1 {K : Type} [Lean.Grind.CommRing K] {x y z : K} {u : ec_T K} (hx : u.1 = x * u.2.2) (hy : u.2.1 = y * u.2.2) : u = ec_sm u.2.2 (x, y, 1) := by
  obtain ⟨a, b, c⟩ := u
  simp only [ec_sm] at *
  rw [hx, hy]
  refine Prod.ext ?_ (Prod.ext ?_ ?_)
  · show x * c = c * x
    grind
  · show y * c = c * y
    grind
  · show c = c * 1
    grind
theorem ec_C_sm {K : Type} [Lean.Grind.CommRing K] (a b x1 y1 x2 y2 : K) : ec_C (ec_sm a (x1, y1, 1)) (ec_sm b (x2, y2, 1)) = ec_sm (a * b * (a * b)) (ec_C (x1, y1, 1) (x2, y2, 1)) := by
  refine Prod.ext ?_ (Prod.ext ?_ ?_)
  · show ec_X (ec_sm a (x1, y1, 1)) (ec_sm b (x2, y2, 1)) = a * b * (a * b) * ec_X (x1, y1, 1) (x2, y2, 1)
    simp only [ec_X, ec_sm]
    grind
  · show ec_Y (ec_sm a (x1, y1, 1)) (ec_sm b (x2, y2, 1)) = a * b * (a * b) * ec_Y (x1, y1, 1) (x2, y2, 1)
    simp only [ec_Y, ec_sm]
    grind
  · show ec_Z (ec_sm a (x1, y1, 1)) (ec_sm b (x2, y2, 1)) = a * b * (a * b) * ec_Z (x1, y1, 1) (x2, y2, 1)
    simp only [ec_Z, ec_sm]
    grind
theorem ec_C_comm {K : Type} [Lean.Grind.CommRing K] (u v : ec_T K) : ec_C u v = ec_C v u := by
  refine Prod.ext ?_ (Prod.ext ?_ ?_)
  · show ec_X u v = ec_X v u
    simp only [ec_X]
    grind
  · show ec_Y u v = ec_Y v u
    simp only [ec_Y]
    grind
  · show ec_Z u v = ec_Z v u
    simp only [ec_Z]
    grind
theorem ec_C_0 {K : Type} [Lean.Grind.CommRing K] (b : K) (v : ec_T K) : ec_C (0, b, 0) v = ec_sm (b * b * v.2.1) v := by
  refine Prod.ext ?_ (Prod.ext ?_ ?_)
  · show ec_X (0, b, 0) v = b * b * v.2.1 * v.1
    simp only [ec_X]
    grind
  · show ec_Y (0, b, 0) v = b * b * v.2.1 * v.2.1
    simp only [ec_Y]
    grind
  · show ec_Z (0, b, 0) v = b * b * v.2.1 * v.2.2
    simp only [ec_Z]
    grind
theorem ec_R_Y {K : Type} [Lean.Grind.CommRing K] {iv : K → K} (hF : ec_F K iv) {P : Option (K × K)} {u : ec_T K} (hP : ec_on P) (h : ec_R P u) : u.2.1 ≠ 0 := by
  cases P with
  | none => exact h.2.1
  | some p =>
    rw [h.2.2]
    exact ec_mulne hF.1 (ec_y0 hF (hP p rfl)) h.1
theorem ec_R_0 {K : Type} [Lean.Grind.CommRing K] [DecidableEq K] {iv : K → K} (hF : ec_F K iv) {Q : Option (K × K)} {u v : ec_T K} (hu : ec_R none u) (hv : ec_R Q v) (hQ : ec_on Q) : ec_R Q (ec_C u v) := by
  obtain ⟨h1, h2, h3⟩ := hu
  have h4 : u = (0, u.2.1, 0) := Prod.ext h1 (Prod.ext rfl h3)
  rw [h4, ec_C_0]
  exact ec_R_sm hF (ec_mulne hF.1 (ec_mulne hF.1 h2 h2) (ec_R_Y hF hQ hv)) hv
theorem ec_rep {K : Type} [Lean.Grind.CommRing K] [DecidableEq K] {iv : K → K} (hF : ec_F K iv) {P Q : Option (K × K)} {u v : ec_T K} (hP : ec_on P) (hQ : ec_on Q) (hu : ec_R P u) (hv : ec_R Q v) : ec_R (ec_ad iv P Q) (ec_C u v) := by
  cases P with
  | none => exact ec_R_0 hF hu hv hQ
  | some p =>
    cases Q with
    | none =>
      rw [ec_C_comm]
      exact ec_R_0 hF hv hu hP
    | some q =>
      obtain ⟨x1, y1⟩ := p
      obtain ⟨x2, y2⟩ := q
      have h1 := ec_rep1 hF (hP _ rfl) (hQ _ rfl)
      rw [ec_sm1 (z := x1) hu.2.1 hu.2.2, ec_sm1 (z := x1) hv.2.1 hv.2.2, ec_C_sm]
      have h2 := ec_mulne hF.1 hu.1 hv.1
      exact ec_R_sm hF (ec_mulne hF.1 h2 h2) h1
theorem ec_uniq {K : Type} [Lean.Grind.CommRing K] {iv : K → K} (hF : ec_F K iv) {P Q : Option (K × K)} {u v : ec_T K} (hu : ec_R P u) (hv : ec_R Q v) (hX : u.1 * v.2.2 = v.1 * u.2.2) (hY : u.2.1 * v.2.2 = v.2.1 * u.2.2) : P = Q := by
  cases P with
  | none =>
    cases Q with
    | none => rfl
    | some q =>
      obtain ⟨h1, h2, h3⟩ := hu
      rw [h3] at hY
      have h4 : u.2.1 * v.2.2 = 0 := by rw [hY]; grind
      exact absurd h4 (ec_mulne hF.1 h2 hv.1)
  | some p =>
    cases Q with
    | none =>
      obtain ⟨h1, h2, h3⟩ := hv
      rw [h3] at hY
      have h4 : v.2.1 * u.2.2 = 0 := by rw [← hY]; grind
      exact absurd h4 (ec_mulne hF.1 h2 hu.1)
    | some q =>
      have hz := ec_mulne hF.1 hu.1 hv.1
      have e1 : p.1 = q.1 := by
        refine ec_canc hF.1 hz ?_
        rw [hu.2.1, hv.2.1] at hX
        grind
      have e2 : p.2 = q.2 := by
        refine ec_canc hF.1 hz ?_
        rw [hu.2.2, hv.2.2] at hY
        grind
      rw [Prod.ext e1 e2]
theorem ec_R_aff {K : Type} [Lean.Grind.CommRing K] {iv : K → K} (hF : ec_F K iv) (x y : K) : ec_R (some (x, y)) (x, y, 1) := by
  refine ⟨hF.2.2.2.2, ?_, ?_⟩
  · show x = x * 1
    grind
  · show y = y * 1
    grind
theorem ec_comm {K : Type} [Lean.Grind.CommRing K] [DecidableEq K] {iv : K → K} (hF : ec_F K iv) {P Q : Option (K × K)} (hP : ec_on P) (hQ : ec_on Q) : ec_ad iv P Q = ec_ad iv Q P := by
  cases P with
  | none => cases Q with
    | none => rfl
    | some q => rfl
  | some p => cases Q with
    | none => rfl
    | some q =>
      obtain ⟨x1, y1⟩ := p
      obtain ⟨x2, y2⟩ := q
      have h1 := ec_rep1 hF (hP _ rfl) (hQ _ rfl)
      have h2 := ec_rep1 hF (hQ _ rfl) (hP _ rfl)
      rw [ec_C_comm] at h2
      exact ec_uniq hF h1 h2 rfl rfl
theorem ec_assoc {K : Type} [Lean.Grind.CommRing K] [DecidableEq K] {iv : K → K} (hF : ec_F K iv) {P Q R : Option (K × K)} (hP : ec_on P) (hQ : ec_on Q) (hR : ec_on R) : ec_ad iv (ec_ad iv P Q) R = ec_ad iv P (ec_ad iv Q R) := by
  cases P with
  | none => rfl
  | some p =>
    cases Q with
    | none => rfl
    | some q =>
      cases R with
      | none =>
        have h9 : ∀ X : Option (K × K), ec_ad iv X none = X := fun X => by cases X <;> rfl
        rw [h9, h9]
      | some r =>
        obtain ⟨x1, y1⟩ := p
        obtain ⟨x2, y2⟩ := q
        obtain ⟨x3, y3⟩ := r
        have a1 := hP _ rfl
        have a2 := hQ _ rfl
        have a3 := hR _ rfl
        have h12 := ec_rep1 hF a1 a2
        have h23 := ec_rep1 hF a2 a3
        have hL := ec_rep hF (ec_on_ad hF hP hQ) hR h12 (ec_R_aff hF x3 y3)
        have hR9 := ec_rep hF hP (ec_on_ad hF hQ hR) (ec_R_aff hF x1 y1) h23
        exact ec_uniq hF hL hR9 (ec_asX a1 a2 a3) (ec_asY a1 a2 a3)
-- multiples
def ec_n {K : Type} [Lean.Grind.CommRing K] [DecidableEq K] (iv : K → K) (P : Option (K × K)) : Nat → Option (K × K)
  | 0 => none
  | k + 1 => ec_ad iv (ec_n iv P k) P
theorem ec_on_n {K : Type} [Lean.Grind.CommRing K] [DecidableEq K] {iv : K → K} (hF : ec_F K iv) {P : Option (K × K)} (hP : ec_on P) (k : Nat) : ec_on (ec_n iv P k) := by
  induction k with
  | zero => intro p h; cases h
  | succ k ih => exact ec_on_ad hF ih hP
theorem ec_n_add {K : Type} [Lean.Grind.CommRing K] [DecidableEq K] {iv : K → K} (hF : ec_F K iv) {P : Option (K × K)} (hP : ec_on P) (a b : Nat) : ec_ad iv (ec_n iv P a) (ec_n iv P b) = ec_n iv P (a + b) := by
  induction b with
  | zero =>
    show ec_ad iv (ec_n iv P a) none = ec_n iv P a
    cases ec_n iv P a <;> rfl
  | succ b ih =>
    show ec_ad iv (ec_n iv P a) (ec_ad iv (ec_n iv P b) P) = ec_ad iv (ec_n iv P (a + b)) P
    rw [← ih, ec_assoc hF (ec_on_n hF hP a) (ec_on_n hF hP b) hP]
theorem ec_n_1 {K : Type} [Lean.Grind.CommRing K] [DecidableEq K] {iv : K → K} (P : Option (K × K)) : ec_n iv P 1 = P := rfl
theorem ec_n_mul {K : Type} [Lean.Grind.CommRing K] [DecidableEq K] {iv : K → K} (hF : ec_F K iv) {P : Option (K × K)} (hP : ec_on P) (a b : Nat) : ec_n iv (ec_n iv P a) b = ec_n iv P (a * b) := by
  induction b with
  | zero => rfl
  | succ b ih =>
    show ec_ad iv (ec_n iv (ec_n iv P a) b) (ec_n iv P a) = ec_n iv P (a * (b + 1))
    rw [ih, ec_n_add hF hP]
    rfl
theorem ec_n_0 {K : Type} [Lean.Grind.CommRing K] [DecidableEq K] {iv : K → K} (k : Nat) : ec_n iv (none : Option (K × K)) k = none := by
  induction k with
  | zero => rfl
  | succ k ih =>
    show ec_ad iv (ec_n iv none k) none = none
    rw [ih]
    rfl
theorem ec_n_mod {K : Type} [Lean.Grind.CommRing K] [DecidableEq K] {iv : K → K} (hF : ec_F K iv) {P : Option (K × K)} (hP : ec_on P) {n : Nat} (hn : ec_n iv P n = none) (k : Nat) : ec_n iv P (k % n) = ec_n iv P k := by
  have h1 : ec_n iv P (n * (k / n) + k % n) = ec_n iv P (k % n) := by
    rw [← ec_n_add hF hP, ← ec_n_mul hF hP, hn, ec_n_0]
    rfl
  rw [← h1, Nat.div_add_mod]
end
section
/-! Numbers: primes by trial, Fermat's small theorem. -/
def nt_go (p : Nat) : Nat → Bool
  | 0 => true
  | n + 1 => cond (Nat.beq (p % (n + 2)) 0) false (nt_go p n)
theorem nt_go_spec {p : Nat} : ∀ {f : Nat}, nt_go p f = true → ∀ e, 2 ≤ e → e ≤ f + 1 → p % e ≠ 0
  | 0, _, e, h1, h2 => by omega
  | f + 1, h, e, h1, h2 => by
    simp only [nt_go] at h
    cases hb : Nat.beq (p % (f + 2)) 0 with
    | true => rw [hb] at h; cases h
    | false =>
      rw [hb] at h
      by_cases he : e = f + 2
      · subst he
        intro h0
        rw [h0] at hb
        cases hb
      · exact nt_go_spec (f := f) h e h1 (by omega)
def nt_P (p : Nat) : Prop := 2 ≤ p ∧ ∀ d, d ∣ p → d = 1 ∨ d = p
theorem nt_prime {p f : Nat} (h2 : 2 ≤ p) (h : nt_go p f = true) (hf : p < (f + 2) * (f + 2)) : nt_P p := by
  refine ⟨h2, fun d hd => ?_⟩
  obtain ⟨e, he⟩ := hd
  by_cases h1 : d = 1
  · exact Or.inl h1
  · by_cases h3 : e = 1
    · right; rw [he, h3, Nat.mul_one]
    · exfalso
      have d0 : d ≠ 0 := fun z => by rw [z, Nat.zero_mul] at he; omega
      have e0 : e ≠ 0 := fun z => by rw [z, Nat.mul_zero] at he; omega
      have m1 : p % d = 0 := by rw [he]; exact Nat.mul_mod_right d e
      have m2 : p % e = 0 := by rw [he]; exact Nat.mul_mod_left d e
      by_cases c1 : d ≤ f + 1
      · exact nt_go_spec h d (by omega) c1 m1
      · by_cases c2 : e ≤ f + 1
        · exact nt_go_spec h e (by omega) c2 m2
        · have : (f + 2) * (f + 2) ≤ d * e := Nat.mul_le_mul (by omega) (by omega)
          omega
theorem nt_euclid {p a b : Nat} (hp : nt_P p) (h : p ∣ a * b) : p ∣ a ∨ p ∣ b := by
  rcases hp.2 (Nat.gcd p a) (Nat.gcd_dvd_left p a) with h1 | h1
  · exact Or.inr (Nat.Coprime.dvd_of_dvd_mul_left h1 h)
  · left; rw [← h1]; exact Nat.gcd_dvd_right p a
def nt_ch : Nat → Nat → Nat
  | _, 0 => 1
  | 0, _ + 1 => 0
  | n + 1, k + 1 => nt_ch n k + nt_ch n (k + 1)
theorem nt_ch_z (n : Nat) : nt_ch n 0 = 1 := by cases n <;> rfl
theorem nt_ch_0 (k : Nat) : nt_ch 0 (k + 1) = 0 := rfl
theorem nt_ch_s (n k : Nat) : nt_ch (n + 1) (k + 1) = nt_ch n k + nt_ch n (k + 1) := rfl
theorem nt_ch_big : ∀ (n k : Nat), n < k → nt_ch n k = 0
  | n, 0, h => by omega
  | 0, k + 1, _ => rfl
  | n + 1, k + 1, h => by rw [nt_ch_s, nt_ch_big n k (by omega), nt_ch_big n (k + 1) (by omega)]
theorem nt_ch_self : ∀ n : Nat, nt_ch n n = 1
  | 0 => rfl
  | n + 1 => by rw [nt_ch_s, nt_ch_self n, nt_ch_big n (n + 1) (by omega)]
theorem nt_ch_mul : ∀ (n k : Nat), (k + 1) * nt_ch (n + 1) (k + 1) = (n + 1) * nt_ch n k
  | 0, 0 => rfl
  | 0, k + 1 => by rw [nt_ch_s, nt_ch_0, nt_ch_0]; simp
  | n + 1, 0 => by
    have h := nt_ch_mul n 0
    rw [nt_ch_z] at h
    rw [nt_ch_s, nt_ch_z]
    omega
  | n + 1, k + 1 => by
    have h1 := nt_ch_mul n (k + 1)
    have h2 := nt_ch_mul n k
    rw [nt_ch_s (n + 1) (k + 1), Nat.mul_add, h1]
    have h3 : (k + 1 + 1) * nt_ch (n + 1) (k + 1) = (n + 1) * nt_ch n k + nt_ch (n + 1) (k + 1) := by rw [Nat.add_mul (k + 1) 1, h2, Nat.one_mul]
    rw [h3, Nat.add_mul (n + 1) 1, Nat.one_mul, nt_ch_s n k, Nat.mul_add]
    omega
def nt_bs (n a : Nat) : Nat → Nat
  | 0 => 0
  | m + 1 => nt_bs n a m + nt_ch n m * a ^ m
theorem nt_bs_s (n a : Nat) : ∀ m, nt_bs (n + 1) a (m + 1) = nt_bs n a (m + 1) + a * nt_bs n a m
  | 0 => by
    show 0 + nt_ch (n + 1) 0 * a ^ 0 = 0 + nt_ch n 0 * a ^ 0 + a * 0
    rw [nt_ch_z, nt_ch_z]
    omega
  | m + 1 => by
    show nt_bs (n + 1) a (m + 1) + nt_ch (n + 1) (m + 1) * a ^ (m + 1) = nt_bs n a (m + 1) + nt_ch n (m + 1) * a ^ (m + 1) + a * (nt_bs n a m + nt_ch n m * a ^ m)
    rw [nt_bs_s n a m, nt_ch_s, Nat.add_mul, Nat.mul_add]
    have h : a * (nt_ch n m * a ^ m) = nt_ch n m * a ^ (m + 1) := by rw [Nat.pow_succ, Nat.mul_left_comm, Nat.mul_comm a]
    rw [h]
    omega
theorem nt_binom (a : Nat) : ∀ n, (a + 1) ^ n = nt_bs n a (n + 1)
  | 0 => by
    show 1 = 0 + nt_ch 0 0 * a ^ 0
    rw [nt_ch_z, Nat.pow_zero]
  | n + 1 => by
    have h1 : nt_bs n a (n + 2) = nt_bs n a (n + 1) := by
      show nt_bs n a (n + 1) + nt_ch n (n + 1) * a ^ (n + 1) = nt_bs n a (n + 1)
      rw [nt_ch_big n (n + 1) (by omega), Nat.zero_mul, Nat.add_zero]
    rw [nt_bs_s, h1, Nat.pow_succ, nt_binom a n, Nat.mul_add, Nat.mul_one, Nat.mul_comm a]
    omega
theorem nt_ch_p {p : Nat} (hp : nt_P p) {k : Nat} (h0 : k + 1 < p) : p ∣ nt_ch p (k + 1) := by
  obtain ⟨q, rfl⟩ : ∃ q, p = q + 1 := ⟨p - 1, by omega⟩
  have h1 : q + 1 ∣ (k + 1) * nt_ch (q + 1) (k + 1) := ⟨nt_ch q k, nt_ch_mul q k⟩
  rcases nt_euclid hp h1 with h2 | h2
  · exact absurd (Nat.le_of_dvd (by omega) h2) (by omega)
  · exact h2
theorem nt_bs_p {p : Nat} (hp : nt_P p) (a : Nat) : ∀ k, k < p → nt_bs p a (k + 1) % p = 1
  | 0, h => by
    show (0 + nt_ch p 0 * a ^ 0) % p = 1
    rw [nt_ch_z, Nat.pow_zero]
    exact Nat.mod_eq_of_lt hp.1
  | k + 1, h => by
    show (nt_bs p a (k + 1) + nt_ch p (k + 1) * a ^ (k + 1)) % p = 1
    obtain ⟨c, hc⟩ := nt_ch_p hp h
    rw [hc, Nat.mul_assoc, Nat.add_mul_mod_self_left]
    exact nt_bs_p hp a k (by omega)
theorem nt_dream {p : Nat} (hp : nt_P p) (a : Nat) : (a + 1) ^ p % p = (a ^ p + 1) % p := by
  rw [nt_binom a p]
  obtain ⟨q, rfl⟩ : ∃ q, p = q + 1 := ⟨p - 1, by have := hp.1; omega⟩
  show (nt_bs (q + 1) a (q + 1) + nt_ch (q + 1) (q + 1) * a ^ (q + 1)) % (q + 1) = _
  rw [nt_ch_self, Nat.one_mul, Nat.add_mod, nt_bs_p hp a q (by omega), Nat.add_mod_mod, Nat.add_comm]
theorem nt_fermat {p : Nat} (hp : nt_P p) : ∀ a : Nat, a ^ p % p = a % p
  | 0 => by
    obtain ⟨q, rfl⟩ : ∃ q, p = q + 1 := ⟨p - 1, by have := hp.1; omega⟩
    rw [Nat.pow_succ, Nat.mul_zero]
  | a + 1 => by rw [nt_dream hp, Nat.add_mod, nt_fermat hp a, ← Nat.add_mod]
theorem nt_ferm1 {p : Nat} (hp : nt_P p) {a : Nat} (ha : a % p ≠ 0) : a ^ (p - 1) % p = 1 := by
  have h2 := hp.1
  have h1 := nt_fermat hp a
  have h3 : a ^ p = a * a ^ (p - 1) := by
    obtain ⟨q, rfl⟩ : ∃ q, p = q + 1 := ⟨p - 1, by omega⟩
    rw [Nat.pow_succ, Nat.mul_comm, Nat.add_sub_cancel]
  have ha0 : 0 < a := Nat.pos_of_ne_zero fun z => ha (by rw [z, Nat.zero_mod])
  have hpos : 0 < a ^ (p - 1) := Nat.pow_pos ha0
  have h4 : p ∣ a * (a ^ (p - 1) - 1) := by
    rw [Nat.mul_sub, Nat.mul_one, ← h3]
    exact Nat.dvd_of_mod_eq_zero (Nat.sub_mod_eq_zero_of_mod_eq h1)
  rcases nt_euclid hp h4 with h5 | h5
  · exact absurd (Nat.mod_eq_zero_of_dvd h5) ha
  · obtain ⟨c, hc⟩ := h5
    have h6 : a ^ (p - 1) = 1 + p * c := by omega
    rw [h6, Nat.add_mul_mod_self_left]
    exact Nat.mod_eq_of_lt h2
theorem nt_inv {p : Nat} (hp : nt_P p) {a : Nat} (ha : a % p ≠ 0) : a ^ (p - 2) % p * a % p = 1 := by
  have h2 := hp.1
  by_cases h3 : p = 2
  · subst h3
    rw [Nat.sub_self, Nat.pow_zero]
    have : a % 2 = 1 := by omega
    omega
  · have h4 : a ^ (p - 2) * a = a ^ (p - 1) := by rw [show p - 1 = (p - 2) + 1 by omega, Nat.pow_succ]
    rw [Nat.mod_mul_mod, h4]
    exact nt_ferm1 hp ha
/-- powers, a bit a step -/
def nt_pw (m : Nat) : Nat → Nat → Nat → Nat → Nat
  | 0, v, _, _ => v
  | f + 1, v, b, e => nt_pw m f (cond (Nat.beq (e % 2) 1) (v * b % m) v) (b * b % m) (e / 2)
theorem nt_pw_spec (m : Nat) : ∀ (f v b e : Nat), e < 2 ^ f → nt_pw m f v b e % m = v * b ^ e % m
  | 0, v, b, e, h => by
    have : e = 0 := by omega
    subst this
    simp only [nt_pw, Nat.pow_zero, Nat.mul_one]
  | f + 1, v, b, e, h => by
    have h2 : e / 2 < 2 ^ f := by rw [Nat.pow_succ] at h; omega
    simp only [nt_pw]
    rw [nt_pw_spec m f _ _ _ h2, Nat.mul_mod, Nat.pow_mod, Nat.mod_mod, ← Nat.pow_mod, ← Nat.mul_mod, ← Nat.pow_two, ← Nat.pow_mul]
    have h3 := Nat.div_add_mod e 2
    cases hb : Nat.beq (e % 2) 1 with
    | true =>
      have h4 := Nat.eq_of_beq_eq_true hb
      have h5 : e = 2 * (e / 2) + 1 := by omega
      have h6 : b ^ e = b ^ (2 * (e / 2)) * b := congrArg (fun z => b ^ z) h5
      rw [cond, Nat.mod_mul_mod, h6, Nat.mul_assoc, Nat.mul_comm b]
    | false =>
      have h4 : e % 2 ≠ 1 := fun z => by rw [z] at hb; cases hb
      have h5 : e = 2 * (e / 2) := by omega
      rw [cond, ← h5]
def nt_p : Nat := 1073735023
def nt_n : Nat := 1073729077
set_option maxRecDepth 100000 in
theorem nt_p_prime : nt_P nt_p := nt_prime (f := 32768) (by decide) (by decide +kernel) (by decide)
set_option maxRecDepth 100000 in
theorem nt_n_prime : nt_P nt_n := nt_prime (f := 32768) (by decide) (by decide +kernel) (by decide)
end
section
/-! No point but none is of an order below n, where n points come from one of order n: there aren't three times as many points. -/
theorem eo_ph : ∀ (m n : Nat) (f : Nat → Nat), (∀ i, i < n → f i < m) → (∀ i j, i < n → j < n → f i = f j → i = j) → n ≤ m
  | 0, n, f, h, _ => by
    cases n with
    | zero => exact Nat.le_refl _
    | succ k => exact absurd (h 0 (Nat.succ_pos k)) (Nat.not_lt_zero _)
  | m + 1, n, f, h, hi => by
    cases n with
    | zero => exact Nat.zero_le _
    | succ k =>
      have hg := eo_ph m k (fun i => if f i = m then f k else f i) (fun i hik => ?_) (fun i j hik hjk hij => ?_)
      · exact Nat.succ_le_succ hg
      · have h1 := h i (by omega)
        have h2 := h k (by omega)
        show (if f i = m then f k else f i) < m
        by_cases he : f i = m
        · rw [if_pos he]
          have h3 : f k ≠ m := fun z => by
            have := hi i k (by omega) (by omega) (he.trans z.symm)
            omega
          omega
        · rw [if_neg he]
          omega
      · have hij : (if f i = m then f k else f i) = (if f j = m then f k else f j) := hij
        by_cases he : f i = m
        · by_cases hf : f j = m
          · exact hi i j (by omega) (by omega) (he.trans hf.symm)
          · rw [if_pos he, if_neg hf] at hij
            have := hi k j (by omega) (by omega) hij
            omega
        · by_cases hf : f j = m
          · rw [if_neg he, if_pos hf] at hij
            have := hi i k (by omega) (by omega) hij
            omega
          · rw [if_neg he, if_neg hf] at hij
            exact hi i j (by omega) (by omega) hij
theorem eo_bez {n m : Nat} (hn : nt_P n) (h0 : 0 < m) (h1 : m < n) : ∃ a c, m * a = 1 + n * c := by
  have h2 : m % n ≠ 0 := by rw [Nat.mod_eq_of_lt h1]; omega
  have h3 := nt_inv hn h2
  refine ⟨m ^ (n - 2) % n, m ^ (n - 2) % n * m / n, ?_⟩
  have h4 := Nat.div_add_mod (m ^ (n - 2) % n * m) n
  rw [h3] at h4
  rw [Nat.mul_comm m]
  omega
theorem eo_one {K : Type} [Lean.Grind.CommRing K] [DecidableEq K] {iv : K → K} (hF : ec_F K iv) {Q : Option (K × K)} (hQ : ec_on Q) {n m : Nat} (hn : nt_P n) (h0 : 0 < m) (h1 : m < n) (hnQ : ec_n iv Q n = none) (hmQ : ec_n iv Q m = none) : Q = none := by
  obtain ⟨a, c, h⟩ := eo_bez hn h0 h1
  have e1 : ec_n iv Q (m * a) = none := by rw [← ec_n_mul hF hQ, hmQ, ec_n_0]
  have e2 : ec_n iv Q (1 + n * c) = Q := by
    rw [← ec_n_add hF hQ, ← ec_n_mul hF hQ, hnQ, ec_n_0, ec_n_1]
    cases Q <;> rfl
  rw [← e2, ← h, e1]
theorem eo_meet {K : Type} [Lean.Grind.CommRing K] [DecidableEq K] {iv : K → K} (hF : ec_F K iv) {G P : Option (K × K)} (hG : ec_on G) (hP : ec_on P) {n m : Nat} (hn : nt_P n) (h0 : 0 < m) (h1 : m < n) (hnG : ec_n iv G n = none) (hmP : ec_n iv P m = none)
    {i j : Nat} (h : ec_n iv P j = ec_n iv G i) : ec_n iv P j = none := by
  refine eo_one hF (ec_on_n hF hP j) hn h0 h1 ?_ ?_
  · rw [h, ec_n_mul hF hG, Nat.mul_comm, ← ec_n_mul hF hG, hnG, ec_n_0]
  · rw [ec_n_mul hF hP, Nat.mul_comm, ← ec_n_mul hF hP, hmP, ec_n_0]
theorem eo_none {K : Type} [Lean.Grind.CommRing K] [DecidableEq K] (iv : K → K) (X : Option (K × K)) : ec_ad iv X none = X := by cases X <;> rfl
theorem eo_inj {K : Type} [Lean.Grind.CommRing K] [DecidableEq K] {iv : K → K} (hF : ec_F K iv) {G P : Option (K × K)} (hG : ec_on G) (hP : ec_on P) {n m : Nat} (hn : nt_P n) (h1 : m < n) (hnG : ec_n iv G n = none) (hmP : ec_n iv P m = none) (hG0 : G ≠ none)
    (hmin : ∀ k, 0 < k → k < m → ec_n iv P k ≠ none) {i j i' j' : Nat} (hi : i < n) (hi' : i' < n) (hj : j < m) (hj' : j' < m) (h : ec_ad iv (ec_n iv G i) (ec_n iv P j) = ec_ad iv (ec_n iv G i') (ec_n iv P j')) : i = i' ∧ j = j' := by
  have oG := ec_on_n hF hG
  have oP := ec_on_n hF hP
  have key : ∀ a b c d, ec_ad iv (ec_ad iv (ec_n iv G a) (ec_n iv P b)) (ec_ad iv (ec_n iv G c) (ec_n iv P d)) = ec_ad iv (ec_n iv G (a + c)) (ec_n iv P (b + d)) := by
    intro a b c d
    rw [ec_assoc hF (oG a) (oP b) (ec_on_ad hF (oG c) (oP d)), ← ec_assoc hF (oP b) (oG c) (oP d), ec_comm hF (oP b) (oG c), ec_assoc hF (oG c) (oP b) (oP d), ec_n_add hF hP, ← ec_assoc hF (oG a) (oG c) (oP (b + d)), ec_n_add hF hG]
  have e1 := key i j (n - i) (m - j)
  have e2 := key i' j' (n - i) (m - j)
  rw [h, e2, show i + (n - i) = n by omega, show j + (m - j) = m by omega, hnG, hmP] at e1
  have e3 : ec_ad iv (ec_n iv G (i' + (n - i))) (ec_n iv P (j' + (m - j))) = none := e1
  have e4 : ec_n iv P (j' + (m - j)) = ec_n iv G ((i' + (n - i)) * (n - 1)) := by
    have z1 : ec_ad iv (ec_n iv G ((i' + (n - i)) * (n - 1))) (ec_n iv G (i' + (n - i))) = none := by
      rw [ec_n_add hF hG]
      have : (i' + (n - i)) * (n - 1) + (i' + (n - i)) = n * (i' + (n - i)) := by
        obtain ⟨q, rfl⟩ : ∃ q, n = q + 1 := ⟨n - 1, by omega⟩
        rw [Nat.add_sub_cancel, Nat.mul_comm, Nat.add_mul, Nat.one_mul]
      rw [this, ← ec_n_mul hF hG, hnG, ec_n_0]
    have z2 := ec_assoc hF (oG ((i' + (n - i)) * (n - 1))) (oG (i' + (n - i))) (oP (j' + (m - j)))
    rw [z1, e3, eo_none] at z2
    exact z2
  have e5 := eo_meet hF hG hP hn (by omega) h1 hnG hmP e4
  have e6 : j' + (m - j) = m := by
    have z1 := ec_n_mod hF hP hmP (j' + (m - j))
    rw [e5] at z1
    by_cases c1 : j' + (m - j) < m
    · rw [Nat.mod_eq_of_lt c1] at z1
      exact absurd z1 (hmin _ (by omega) c1)
    · have z2 : (j' + (m - j)) % m = j' + (m - j) - m := by
        rw [Nat.mod_eq_sub_mod (by omega), Nat.mod_eq_of_lt (by omega)]
      rw [z2] at z1
      by_cases c2 : j' + (m - j) = m
      · exact c2
      · exact absurd z1 (hmin _ (by omega) (by omega))
  have e7 : ec_n iv G (i' + (n - i)) = none := by
    rw [e5, eo_none] at e3
    exact e3
  have e8 : i' + (n - i) = n := by
    have z1 := ec_n_mod hF hG hnG (i' + (n - i))
    rw [e7] at z1
    have z3 : ∀ k, 0 < k → k < n → ec_n iv G k ≠ none := fun k k0 k1 z => hG0 (eo_one hF hG hn k0 k1 hnG z)
    by_cases c1 : i' + (n - i) < n
    · rw [Nat.mod_eq_of_lt c1] at z1
      exact absurd z1 (z3 _ (by omega) c1)
    · have z2 : (i' + (n - i)) % n = i' + (n - i) - n := by
        rw [Nat.mod_eq_sub_mod (by omega), Nat.mod_eq_of_lt (by omega)]
      rw [z2] at z1
      by_cases c2 : i' + (n - i) = n
      · exact c2
      · exact absurd z1 (z3 _ (by omega) (by omega))
  exact ⟨by omega, by omega⟩
/-- 'num' numbers the points below b; three times n is more than b -/
theorem eo_order {K : Type} [Lean.Grind.CommRing K] [DecidableEq K] {iv : K → K} (hF : ec_F K iv) {G : Option (K × K)} (hG : ec_on G) {n b : Nat} (hn : nt_P n) (hnG : ec_n iv G n = none) (hG0 : G ≠ none) (num : Option (K × K) → Nat) (hb : ∀ Q, ec_on Q → num Q < b)
    (hinj : ∀ Q R, ec_on Q → ec_on R → num Q = num R → Q = R) (h3 : b < 3 * n) {P : Option (K × K)} (hP : ec_on P) (hP0 : P ≠ none) {d : Nat} (h0 : 0 < d) (hd : d < n) : ec_n iv P d ≠ none := by
  intro hz
  obtain ⟨m, ⟨hm0, hmz⟩, hmin⟩ := pk_least (fun k => 0 < k ∧ ec_n iv P k = none) ⟨d, h0, hz⟩
  have hmd : m ≤ d := Nat.le_of_not_lt fun z => hmin d z ⟨h0, hz⟩
  have m1 : m ≠ 1 := fun z => hP0 (by rw [z] at hmz; exact hmz)
  have m2 : m ≠ 2 := by
    intro z
    rw [z] at hmz
    have hmz : ec_ad iv P P = none := hmz
    cases P with
    | none => exact hP0 rfl
    | some p =>
      obtain ⟨x1, y1⟩ := p
      rw [ec_ad_some, if_pos rfl, if_pos rfl] at hmz
      cases hmz
  have hlt : m < n := by omega
  have hcount := eo_ph b (3 * n) (fun t => num (ec_ad iv (ec_n iv G (t / 3)) (ec_n iv P (t % 3)))) (fun t _ => hb _ (ec_on_ad hF (ec_on_n hF hG _) (ec_on_n hF hP _))) (fun s t hs ht hst => by
    have e := hinj _ _ (ec_on_ad hF (ec_on_n hF hG _) (ec_on_n hF hP _)) (ec_on_ad hF (ec_on_n hF hG _) (ec_on_n hF hP _)) hst
    have e2 := eo_inj hF hG hP hn hlt hnG hmz hG0 (fun k k0 k1 z => hmin k k1 ⟨k0, z⟩) (i := s / 3) (j := s % 3) (i' := t / 3) (j' := t % 3) (by omega) (by omega) (by omega) (by omega) e
    omega)
  omega
end
