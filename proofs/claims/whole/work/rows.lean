section
/-! Polynomials in x1 x2 x3 y1 y2 y3 with whole coefficients, for identities modulo y * y = x * x * x + 7: an own small normaliser. -/
abbrev zp_M : Type := Nat × Nat × Nat × Nat × Nat × Nat
abbrev zp_P : Type := List (zp_M × Int)
def zp_cd (a : zp_M) : Nat := a.1 + 64 * (a.2.1 + 64 * (a.2.2.1 + 64 * (a.2.2.2.1 + 64 * (a.2.2.2.2.1 + 64 * a.2.2.2.2.2))))
def zp_eqm (a b : zp_M) : Bool := Nat.beq a.1 b.1 && (Nat.beq a.2.1 b.2.1 && (Nat.beq a.2.2.1 b.2.2.1 && (Nat.beq a.2.2.2.1 b.2.2.2.1 && (Nat.beq a.2.2.2.2.1 b.2.2.2.2.1 && Nat.beq a.2.2.2.2.2 b.2.2.2.2.2))))
theorem zp_eqm_spec {a b : zp_M} (h : zp_eqm a b = true) : a = b := by
  obtain ⟨a1, a2, a3, a4, a5, a6⟩ := a
  obtain ⟨b1, b2, b3, b4, b5, b6⟩ := b
  simp only [zp_eqm, Bool.and_eq_true] at h
  obtain ⟨h1, h2, h3, h4, h5, h6⟩ := h
  have e1 := Nat.eq_of_beq_eq_true h1
  have e2 := Nat.eq_of_beq_eq_true h2
  have e3 := Nat.eq_of_beq_eq_true h3
  have e4 := Nat.eq_of_beq_eq_true h4
  have e5 := Nat.eq_of_beq_eq_true h5
  have e6 := Nat.eq_of_beq_eq_true h6
  subst e1; subst e2; subst e3; subst e4; subst e5; subst e6
  rfl
def zp_mm (a b : zp_M) : zp_M := (a.1 + b.1, a.2.1 + b.2.1, a.2.2.1 + b.2.2.1, a.2.2.2.1 + b.2.2.2.1, a.2.2.2.2.1 + b.2.2.2.2.1, a.2.2.2.2.2 + b.2.2.2.2.2)
def zp_cs (k : zp_M) (c : Int) (p : zp_P) : zp_P := if c = 0 then p else (k, c) :: p
def zp_go (k : zp_M) (c : Int) (f : zp_P → zp_P) : zp_P → zp_P
  | [] => (k, c) :: f []
  | t :: q => cond (Nat.blt (zp_cd k) (zp_cd t.1)) (t :: zp_go k c f q) (cond (zp_eqm k t.1) (zp_cs k (c + t.2) (f q)) ((k, c) :: f (t :: q)))
def zp_add : zp_P → zp_P → zp_P
  | [], q => q
  | t :: p, q => zp_go t.1 t.2 (zp_add p) q
def zp_tm (k : zp_M) (c : Int) (p : zp_P) : zp_P := p.map fun t => (zp_mm k t.1, c * t.2)
def zp_mr : zp_P → zp_P → zp_P
  | [], _ => []
  | t :: p, q => zp_add (zp_tm t.1 t.2 q) (zp_mr p q)
def zp_ng (p : zp_P) : zp_P := p.map fun t => (t.1, -t.2)
/-- y * y becomes x * x * x + 7, by a variable: 'hi' tells that a term has y * y in it -/
def zp_rd (hi : zp_M → Bool) (B C : zp_M → zp_M) (p : zp_P) : zp_P :=
  zp_add (p.filter fun t => !hi t.1) (zp_add ((p.filter fun t => hi t.1).map fun t => (B t.1, t.2)) ((p.filter fun t => hi t.1).map fun t => (C t.1, 7 * t.2)))
def zp_h1 (k : zp_M) : Bool := Nat.ble 2 k.2.2.2.1
def zp_b1 (k : zp_M) : zp_M := (k.1 + 3, k.2.1, k.2.2.1, k.2.2.2.1 - 2, k.2.2.2.2.1, k.2.2.2.2.2)
def zp_c1 (k : zp_M) : zp_M := (k.1, k.2.1, k.2.2.1, k.2.2.2.1 - 2, k.2.2.2.2.1, k.2.2.2.2.2)
def zp_h2 (k : zp_M) : Bool := Nat.ble 2 k.2.2.2.2.1
def zp_b2 (k : zp_M) : zp_M := (k.1, k.2.1 + 3, k.2.2.1, k.2.2.2.1, k.2.2.2.2.1 - 2, k.2.2.2.2.2)
def zp_c2 (k : zp_M) : zp_M := (k.1, k.2.1, k.2.2.1, k.2.2.2.1, k.2.2.2.2.1 - 2, k.2.2.2.2.2)
def zp_h3 (k : zp_M) : Bool := Nat.ble 2 k.2.2.2.2.2
def zp_b3 (k : zp_M) : zp_M := (k.1, k.2.1, k.2.2.1 + 3, k.2.2.2.1, k.2.2.2.2.1, k.2.2.2.2.2 - 2)
def zp_c3 (k : zp_M) : zp_M := (k.1, k.2.1, k.2.2.1, k.2.2.2.1, k.2.2.2.2.1, k.2.2.2.2.2 - 2)
def zp_mu (p q : zp_P) : zp_P := zp_rd zp_h3 zp_b3 zp_c3 (zp_rd zp_h2 zp_b2 zp_c2 (zp_rd zp_h1 zp_b1 zp_c1 (zp_mr p q)))
def zp_sb (p q : zp_P) : zp_P := zp_add p (zp_ng q)
def zp_k (c : Int) : zp_P := [((0, 0, 0, 0, 0, 0), c)]
def zp_x1 : zp_P := [((1, 0, 0, 0, 0, 0), 1)]
def zp_x2 : zp_P := [((0, 1, 0, 0, 0, 0), 1)]
def zp_x3 : zp_P := [((0, 0, 1, 0, 0, 0), 1)]
def zp_y1 : zp_P := [((0, 0, 0, 1, 0, 0), 1)]
def zp_y2 : zp_P := [((0, 0, 0, 0, 1, 0), 1)]
def zp_y3 : zp_P := [((0, 0, 0, 0, 0, 1), 1)]
-- what they mean in a ring
def zp_c {K : Type} [Lean.Grind.CommRing K] (c : Int) : K := (Lean.Grind.Ring.intCast (α := K)).intCast c
theorem zp_c_add {K : Type} [Lean.Grind.CommRing K] (a b : Int) : zp_c (K := K) (a + b) = zp_c a + zp_c b := Lean.Grind.Ring.intCast_add a b
theorem zp_c_mul {K : Type} [Lean.Grind.CommRing K] (a b : Int) : zp_c (K := K) (a * b) = zp_c a * zp_c b := Lean.Grind.Ring.intCast_mul a b
theorem zp_c_neg {K : Type} [Lean.Grind.CommRing K] (a : Int) : zp_c (K := K) (-a) = -zp_c a := Lean.Grind.Ring.intCast_neg a
theorem zp_c_0 {K : Type} [Lean.Grind.CommRing K] : zp_c (K := K) 0 = 0 := Lean.Grind.Ring.intCast_zero
theorem zp_c_1 {K : Type} [Lean.Grind.CommRing K] : zp_c (K := K) 1 = 1 := Lean.Grind.Ring.intCast_one
theorem zp_c_nat {K : Type} [Lean.Grind.CommRing K] (n : Nat) : zp_c (K := K) (OfNat.ofNat n) = OfNat.ofNat n := Lean.Grind.Ring.intCast_ofNat n
def zp_mo {K : Type} [Lean.Grind.CommRing K] (x1 x2 x3 y1 y2 y3 : K) (k : zp_M) : K := x1 ^ k.1 * (x2 ^ k.2.1 * (x3 ^ k.2.2.1 * (y1 ^ k.2.2.2.1 * (y2 ^ k.2.2.2.2.1 * y3 ^ k.2.2.2.2.2))))
def zp_ev {K : Type} [Lean.Grind.CommRing K] (x1 x2 x3 y1 y2 y3 : K) : zp_P → K
  | [] => 0
  | t :: p => zp_c t.2 * zp_mo x1 x2 x3 y1 y2 y3 t.1 + zp_ev x1 x2 x3 y1 y2 y3 p
theorem zp_mo_mm {K : Type} [Lean.Grind.CommRing K] (x1 x2 x3 y1 y2 y3 : K) (a b : zp_M) : zp_mo x1 x2 x3 y1 y2 y3 (zp_mm a b) = zp_mo x1 x2 x3 y1 y2 y3 a * zp_mo x1 x2 x3 y1 y2 y3 b := by
  simp only [zp_mo, zp_mm, Lean.Grind.Semiring.pow_add]
  grind
theorem zp_ev_cs {K : Type} [Lean.Grind.CommRing K] (x1 x2 x3 y1 y2 y3 : K) (k : zp_M) (c : Int) (p : zp_P) : zp_ev x1 x2 x3 y1 y2 y3 (zp_cs k c p) = zp_c c * zp_mo x1 x2 x3 y1 y2 y3 k + zp_ev x1 x2 x3 y1 y2 y3 p := by
  unfold zp_cs
  split
  · next h => rw [h, zp_c_0]; grind
  · rfl
theorem zp_ev_go {K : Type} [Lean.Grind.CommRing K] (x1 x2 x3 y1 y2 y3 : K) (k : zp_M) (c : Int) (f : zp_P → zp_P) (E : K) (hf : ∀ q, zp_ev x1 x2 x3 y1 y2 y3 (f q) = E + zp_ev x1 x2 x3 y1 y2 y3 q) (q : zp_P) :
    zp_ev x1 x2 x3 y1 y2 y3 (zp_go k c f q) = zp_c c * zp_mo x1 x2 x3 y1 y2 y3 k + E + zp_ev x1 x2 x3 y1 y2 y3 q := by
  induction q with
  | nil => simp only [zp_go, zp_ev, hf]; grind
  | cons t q ih =>
    simp only [zp_go]
    cases hb : Nat.blt (zp_cd k) (zp_cd t.1)
    · cases he : zp_eqm k t.1
      · simp only [cond, zp_ev, hf]; grind
      · have h9 := zp_eqm_spec he
        simp only [cond, zp_ev_cs, hf, zp_ev, zp_c_add, ← h9]; grind
    · simp only [cond, zp_ev, ih]; grind
theorem zp_ev_add {K : Type} [Lean.Grind.CommRing K] (x1 x2 x3 y1 y2 y3 : K) (p q : zp_P) : zp_ev x1 x2 x3 y1 y2 y3 (zp_add p q) = zp_ev x1 x2 x3 y1 y2 y3 p + zp_ev x1 x2 x3 y1 y2 y3 q := by
  induction p generalizing q with
  | nil => simp only [zp_add, zp_ev]; grind
  | cons t p ih => simp only [zp_add]; rw [zp_ev_go x1 x2 x3 y1 y2 y3 t.1 t.2 (zp_add p) (zp_ev x1 x2 x3 y1 y2 y3 p) ih q]; simp only [zp_ev]
theorem zp_ev_tm {K : Type} [Lean.Grind.CommRing K] (x1 x2 x3 y1 y2 y3 : K) (k : zp_M) (c : Int) (p : zp_P) : zp_ev x1 x2 x3 y1 y2 y3 (zp_tm k c p) = zp_c c * zp_mo x1 x2 x3 y1 y2 y3 k * zp_ev x1 x2 x3 y1 y2 y3 p := by
  unfold zp_tm
  induction p with
  | nil => simp only [List.map, zp_ev]; grind
  | cons t p ih => simp only [List.map, zp_ev, ih, zp_mo_mm, zp_c_mul]; grind
theorem zp_ev_mr {K : Type} [Lean.Grind.CommRing K] (x1 x2 x3 y1 y2 y3 : K) (p q : zp_P) : zp_ev x1 x2 x3 y1 y2 y3 (zp_mr p q) = zp_ev x1 x2 x3 y1 y2 y3 p * zp_ev x1 x2 x3 y1 y2 y3 q := by
  induction p with
  | nil => simp only [zp_mr, zp_ev]; grind
  | cons t p ih => simp only [zp_mr, zp_ev, zp_ev_add, zp_ev_tm, ih]; grind
theorem zp_ev_ng {K : Type} [Lean.Grind.CommRing K] (x1 x2 x3 y1 y2 y3 : K) (p : zp_P) : zp_ev x1 x2 x3 y1 y2 y3 (zp_ng p) = -zp_ev x1 x2 x3 y1 y2 y3 p := by
  unfold zp_ng
  induction p with
  | nil => simp only [List.map, zp_ev]; grind
  | cons t p ih => simp only [List.map, zp_ev, ih, zp_c_neg]; grind
theorem zp_ev_rd {K : Type} [Lean.Grind.CommRing K] (x1 x2 x3 y1 y2 y3 : K) (hi : zp_M → Bool) (B C : zp_M → zp_M)
    (h : ∀ k, hi k = true → zp_mo x1 x2 x3 y1 y2 y3 k = zp_mo x1 x2 x3 y1 y2 y3 (B k) + 7 * zp_mo x1 x2 x3 y1 y2 y3 (C k)) (p : zp_P) : zp_ev x1 x2 x3 y1 y2 y3 (zp_rd hi B C p) = zp_ev x1 x2 x3 y1 y2 y3 p := by
  unfold zp_rd
  rw [zp_ev_add, zp_ev_add]
  induction p with
  | nil => simp only [List.filter, List.map, zp_ev]; grind
  | cons t p ih =>
    have h7 : zp_c (K := K) (7 * t.2) = 7 * zp_c t.2 := by rw [zp_c_mul]; rw [show zp_c (K := K) 7 = 7 from zp_c_nat 7]
    cases hh : hi t.1
    · simp only [List.filter, hh, Bool.not_false, zp_ev] at ih ⊢
      grind
    · have h9 := h t.1 hh
      simp only [List.filter, hh, Bool.not_true, List.map, zp_ev, h7, h9] at ih ⊢
      grind
theorem zp_pw {K : Type} [Lean.Grind.CommRing K] (y : K) {n : Nat} (h : Nat.ble 2 n = true) : y ^ n = y * y * y ^ (n - 2) := by
  have h2 := Nat.le_of_ble_eq_true h
  obtain ⟨m, rfl⟩ : ∃ m, n = m + 2 := ⟨n - 2, by omega⟩
  rw [show m + 2 - 2 = m by omega, Lean.Grind.Semiring.pow_succ, Lean.Grind.Semiring.pow_succ]
  grind
theorem zp_pw3 {K : Type} [Lean.Grind.CommRing K] (x : K) (n : Nat) : x ^ (n + 3) = x * x * x * x ^ n := by
  rw [Lean.Grind.Semiring.pow_succ, Lean.Grind.Semiring.pow_succ, Lean.Grind.Semiring.pow_succ]
  grind
theorem zp_ev_mu {K : Type} [Lean.Grind.CommRing K] {x1 x2 x3 y1 y2 y3 : K} (h1 : y1 * y1 = x1 * x1 * x1 + 7) (h2 : y2 * y2 = x2 * x2 * x2 + 7) (h3 : y3 * y3 = x3 * x3 * x3 + 7) (p q : zp_P) :
    zp_ev x1 x2 x3 y1 y2 y3 (zp_mu p q) = zp_ev x1 x2 x3 y1 y2 y3 p * zp_ev x1 x2 x3 y1 y2 y3 q := by
  unfold zp_mu
  rw [zp_ev_rd, zp_ev_rd, zp_ev_rd, zp_ev_mr]
  · intro k hk
    simp only [zp_mo, zp_b1, zp_c1]
    rw [zp_pw y1 hk, h1, zp_pw3]
    grind
  · intro k hk
    simp only [zp_mo, zp_b2, zp_c2]
    rw [zp_pw y2 hk, h2, zp_pw3]
    grind
  · intro k hk
    simp only [zp_mo, zp_b3, zp_c3]
    rw [zp_pw y3 hk, h3, zp_pw3]
    grind
theorem zp_ev_sb {K : Type} [Lean.Grind.CommRing K] (x1 x2 x3 y1 y2 y3 : K) (p q : zp_P) : zp_ev x1 x2 x3 y1 y2 y3 (zp_sb p q) = zp_ev x1 x2 x3 y1 y2 y3 p - zp_ev x1 x2 x3 y1 y2 y3 q := by
  unfold zp_sb
  rw [zp_ev_add, zp_ev_ng]
  grind
theorem zp_ev_k {K : Type} [Lean.Grind.CommRing K] (x1 x2 x3 y1 y2 y3 : K) (c : Int) : zp_ev x1 x2 x3 y1 y2 y3 (zp_k c) = zp_c c := by
  simp only [zp_k, zp_ev, zp_mo, Lean.Grind.Semiring.pow_zero]
  grind
theorem zp_ev_x1 {K : Type} [Lean.Grind.CommRing K] (x1 x2 x3 y1 y2 y3 : K) : zp_ev x1 x2 x3 y1 y2 y3 zp_x1 = x1 := by
  simp only [zp_x1, zp_ev, zp_mo, zp_c_1, Lean.Grind.Semiring.pow_zero, Lean.Grind.Semiring.pow_one]
  grind
theorem zp_ev_x2 {K : Type} [Lean.Grind.CommRing K] (x1 x2 x3 y1 y2 y3 : K) : zp_ev x1 x2 x3 y1 y2 y3 zp_x2 = x2 := by
  simp only [zp_x2, zp_ev, zp_mo, zp_c_1, Lean.Grind.Semiring.pow_zero, Lean.Grind.Semiring.pow_one]
  grind
theorem zp_ev_x3 {K : Type} [Lean.Grind.CommRing K] (x1 x2 x3 y1 y2 y3 : K) : zp_ev x1 x2 x3 y1 y2 y3 zp_x3 = x3 := by
  simp only [zp_x3, zp_ev, zp_mo, zp_c_1, Lean.Grind.Semiring.pow_zero, Lean.Grind.Semiring.pow_one]
  grind
theorem zp_ev_y1 {K : Type} [Lean.Grind.CommRing K] (x1 x2 x3 y1 y2 y3 : K) : zp_ev x1 x2 x3 y1 y2 y3 zp_y1 = y1 := by
  simp only [zp_y1, zp_ev, zp_mo, zp_c_1, Lean.Grind.Semiring.pow_zero, Lean.Grind.Semiring.pow_one]
  grind
theorem zp_ev_y2 {K : Type} [Lean.Grind.CommRing K] (x1 x2 x3 y1 y2 y3 : K) : zp_ev x1 x2 x3 y1 y2 y3 zp_y2 = y2 := by
  simp only [zp_y2, zp_ev, zp_mo, zp_c_1, Lean.Grind.Semiring.pow_zero, Lean.Grind.Semiring.pow_one]
  grind
theorem zp_ev_y3 {K : Type} [Lean.Grind.CommRing K] (x1 x2 x3 y1 y2 y3 : K) : zp_ev x1 x2 x3 y1 y2 y3 zp_y3 = y3 := by
  simp only [zp_y3, zp_ev, zp_mo, zp_c_1, Lean.Grind.Semiring.pow_zero, Lean.Grind.Semiring.pow_one]
  grind
end
section
/-! The curve y * y = x * x * x + 7 over a ring without divisors of zero in which x * x * x + 7 is never zero: its addition is associative. By the addition law that has no exceptional pairs there. -/
theorem zp_zero {K : Type} [Lean.Grind.CommRing K] {x1 x2 x3 y1 y2 y3 : K} {p : zp_P} (h : p.isEmpty = true) : zp_ev x1 x2 x3 y1 y2 y3 p = 0 := by
  cases p with
  | nil => rfl
  | cons t p => cases h
theorem ec_sub0 {K : Type} [Lean.Grind.CommRing K] {a b : K} (h : a - b = 0) : a = b := by grind
theorem ec_canc {K : Type} [Lean.Grind.CommRing K] (nz : ∀ a b : K, a * b = 0 → a = 0 ∨ b = 0) {a x y : K} (ha : a ≠ 0) (h : a * x = a * y) : x = y := by
  have h1 : a * (x - y) = 0 := by grind
  rcases nz _ _ h1 with h2 | h2
  · exact absurd h2 ha
  · exact ec_sub0 h2
theorem ec_mulne {K : Type} [Lean.Grind.CommRing K] (nz : ∀ a b : K, a * b = 0 → a = 0 ∨ b = 0) {a b : K} (ha : a ≠ 0) (hb : b ≠ 0) : a * b ≠ 0 := fun h => (nz _ _ h).elim ha hb
abbrev ec_T (K : Type) : Type := K × K × K
def ec_X {K : Type} [Lean.Grind.CommRing K] (u v : ec_T K) : K := (u.1 * v.2.1 + v.1 * u.2.1) * (u.2.1 * v.2.1 - 21 * (u.2.2 * v.2.2)) - 21 * ((u.2.1 * v.2.2 + v.2.1 * u.2.2) * (u.1 * v.2.2 + v.1 * u.2.2))
def ec_Y {K : Type} [Lean.Grind.CommRing K] (u v : ec_T K) : K := (u.2.1 * v.2.1 + 21 * (u.2.2 * v.2.2)) * (u.2.1 * v.2.1 - 21 * (u.2.2 * v.2.2)) + 63 * (u.1 * v.1 * (u.1 * v.2.2 + v.1 * u.2.2))
def ec_Z {K : Type} [Lean.Grind.CommRing K] (u v : ec_T K) : K := (u.2.1 * v.2.2 + v.2.1 * u.2.2) * (u.2.1 * v.2.1 + 21 * (u.2.2 * v.2.2)) + 3 * (u.1 * v.1 * (u.1 * v.2.1 + v.1 * u.2.1))
def ec_C {K : Type} [Lean.Grind.CommRing K] (u v : ec_T K) : ec_T K := (ec_X u v, ec_Y u v, ec_Z u v)
abbrev zp_T : Type := zp_P × zp_P × zp_P
def zp_X (u v : zp_T) : zp_P := zp_sb (zp_mu (zp_add (zp_mu u.1 v.2.1) (zp_mu v.1 u.2.1)) (zp_sb (zp_mu u.2.1 v.2.1) (zp_mu (zp_k 21) (zp_mu u.2.2 v.2.2)))) (zp_mu (zp_k 21) (zp_mu (zp_add (zp_mu u.2.1 v.2.2) (zp_mu v.2.1 u.2.2)) (zp_add (zp_mu u.1 v.2.2) (zp_mu v.1 u.2.2))))
def zp_Y (u v : zp_T) : zp_P := zp_add (zp_mu (zp_add (zp_mu u.2.1 v.2.1) (zp_mu (zp_k 21) (zp_mu u.2.2 v.2.2))) (zp_sb (zp_mu u.2.1 v.2.1) (zp_mu (zp_k 21) (zp_mu u.2.2 v.2.2)))) (zp_mu (zp_k 63) (zp_mu (zp_mu u.1 v.1) (zp_add (zp_mu u.1 v.2.2) (zp_mu v.1 u.2.2))))
def zp_Z (u v : zp_T) : zp_P := zp_add (zp_mu (zp_add (zp_mu u.2.1 v.2.2) (zp_mu v.2.1 u.2.2)) (zp_add (zp_mu u.2.1 v.2.1) (zp_mu (zp_k 21) (zp_mu u.2.2 v.2.2)))) (zp_mu (zp_k 3) (zp_mu (zp_mu u.1 v.1) (zp_add (zp_mu u.1 v.2.1) (zp_mu v.1 u.2.1))))
def zp_C (u v : zp_T) : zp_T := (zp_X u v, zp_Y u v, zp_Z u v)
def zp_et {K : Type} [Lean.Grind.CommRing K] (x1 x2 x3 y1 y2 y3 : K) (u : zp_T) : ec_T K := (zp_ev x1 x2 x3 y1 y2 y3 u.1, zp_ev x1 x2 x3 y1 y2 y3 u.2.1, zp_ev x1 x2 x3 y1 y2 y3 u.2.2)
theorem zp_ev_X {K : Type} [Lean.Grind.CommRing K] {x1 x2 x3 y1 y2 y3 : K} (h1 : y1 * y1 = x1 * x1 * x1 + 7) (h2 : y2 * y2 = x2 * x2 * x2 + 7) (h3 : y3 * y3 = x3 * x3 * x3 + 7) (u v : zp_T) :
    zp_ev x1 x2 x3 y1 y2 y3 (zp_X u v) = ec_X (zp_et x1 x2 x3 y1 y2 y3 u) (zp_et x1 x2 x3 y1 y2 y3 v) := by
  simp only [zp_X, ec_X, zp_et, zp_ev_sb, zp_ev_add, zp_ev_mu h1 h2 h3, zp_ev_k, show zp_c (K := K) 21 = 21 from zp_c_nat 21]
theorem zp_ev_Y {K : Type} [Lean.Grind.CommRing K] {x1 x2 x3 y1 y2 y3 : K} (h1 : y1 * y1 = x1 * x1 * x1 + 7) (h2 : y2 * y2 = x2 * x2 * x2 + 7) (h3 : y3 * y3 = x3 * x3 * x3 + 7) (u v : zp_T) :
    zp_ev x1 x2 x3 y1 y2 y3 (zp_Y u v) = ec_Y (zp_et x1 x2 x3 y1 y2 y3 u) (zp_et x1 x2 x3 y1 y2 y3 v) := by
  simp only [zp_Y, ec_Y, zp_et, zp_ev_sb, zp_ev_add, zp_ev_mu h1 h2 h3, zp_ev_k, show zp_c (K := K) 21 = 21 from zp_c_nat 21, show zp_c (K := K) 63 = 63 from zp_c_nat 63]
theorem zp_ev_Z {K : Type} [Lean.Grind.CommRing K] {x1 x2 x3 y1 y2 y3 : K} (h1 : y1 * y1 = x1 * x1 * x1 + 7) (h2 : y2 * y2 = x2 * x2 * x2 + 7) (h3 : y3 * y3 = x3 * x3 * x3 + 7) (u v : zp_T) :
    zp_ev x1 x2 x3 y1 y2 y3 (zp_Z u v) = ec_Z (zp_et x1 x2 x3 y1 y2 y3 u) (zp_et x1 x2 x3 y1 y2 y3 v) := by
  simp only [zp_Z, ec_Z, zp_et, zp_ev_sb, zp_ev_add, zp_ev_mu h1 h2 h3, zp_ev_k, show zp_c (K := K) 21 = 21 from zp_c_nat 21, show zp_c (K := K) 3 = 3 from zp_c_nat 3]
def zp_p1 : zp_T := (zp_x1, zp_y1, zp_k 1)
def zp_p2 : zp_T := (zp_x2, zp_y2, zp_k 1)
def zp_p3 : zp_T := (zp_x3, zp_y3, zp_k 1)
theorem zp_et_p1 {K : Type} [Lean.Grind.CommRing K] (x1 x2 x3 y1 y2 y3 : K) : zp_et x1 x2 x3 y1 y2 y3 zp_p1 = (x1, y1, 1) := by simp only [zp_et, zp_p1, zp_ev_x1, zp_ev_y1, zp_ev_k, zp_c_1]
theorem zp_et_p2 {K : Type} [Lean.Grind.CommRing K] (x1 x2 x3 y1 y2 y3 : K) : zp_et x1 x2 x3 y1 y2 y3 zp_p2 = (x2, y2, 1) := by simp only [zp_et, zp_p2, zp_ev_x2, zp_ev_y2, zp_ev_k, zp_c_1]
theorem zp_et_p3 {K : Type} [Lean.Grind.CommRing K] (x1 x2 x3 y1 y2 y3 : K) : zp_et x1 x2 x3 y1 y2 y3 zp_p3 = (x3, y3, 1) := by simp only [zp_et, zp_p3, zp_ev_x3, zp_ev_y3, zp_ev_k, zp_c_1]
theorem zp_et_C {K : Type} [Lean.Grind.CommRing K] {x1 x2 x3 y1 y2 y3 : K} (h1 : y1 * y1 = x1 * x1 * x1 + 7) (h2 : y2 * y2 = x2 * x2 * x2 + 7) (h3 : y3 * y3 = x3 * x3 * x3 + 7) (u v : zp_T) :
    zp_et x1 x2 x3 y1 y2 y3 (zp_C u v) = ec_C (zp_et x1 x2 x3 y1 y2 y3 u) (zp_et x1 x2 x3 y1 y2 y3 v) := by
  show (zp_ev x1 x2 x3 y1 y2 y3 (zp_X u v), zp_ev x1 x2 x3 y1 y2 y3 (zp_Y u v), zp_ev x1 x2 x3 y1 y2 y3 (zp_Z u v)) = _
  rw [zp_ev_X h1 h2 h3, zp_ev_Y h1 h2 h3, zp_ev_Z h1 h2 h3]
  rfl
-- two points: the chord and the tangent, by numerators
def ec_nx {K : Type} [Lean.Grind.CommRing K] (d n x1 x2 : K) : K := n * n - (x1 + x2) * (d * d)
def ec_ny {K : Type} [Lean.Grind.CommRing K] (d n x1 x2 y1 : K) : K := n * (x1 * (d * d) - ec_nx d n x1 x2) - y1 * (d * d * d)
def zp_nx (d n x1 x2 : zp_P) : zp_P := zp_sb (zp_mu n n) (zp_mu (zp_add x1 x2) (zp_mu d d))
def zp_ny (d n x1 x2 y1 : zp_P) : zp_P := zp_sb (zp_mu n (zp_sb (zp_mu x1 (zp_mu d d)) (zp_nx d n x1 x2))) (zp_mu y1 (zp_mu (zp_mu d d) d))
theorem zp_ev_nx {K : Type} [Lean.Grind.CommRing K] {x1 x2 x3 y1 y2 y3 : K} (h1 : y1 * y1 = x1 * x1 * x1 + 7) (h2 : y2 * y2 = x2 * x2 * x2 + 7) (h3 : y3 * y3 = x3 * x3 * x3 + 7) (d n a b : zp_P) :
    zp_ev x1 x2 x3 y1 y2 y3 (zp_nx d n a b) = ec_nx (zp_ev x1 x2 x3 y1 y2 y3 d) (zp_ev x1 x2 x3 y1 y2 y3 n) (zp_ev x1 x2 x3 y1 y2 y3 a) (zp_ev x1 x2 x3 y1 y2 y3 b) := by
  simp only [zp_nx, ec_nx, zp_ev_sb, zp_ev_add, zp_ev_mu h1 h2 h3]
theorem zp_ev_ny {K : Type} [Lean.Grind.CommRing K] {x1 x2 x3 y1 y2 y3 : K} (h1 : y1 * y1 = x1 * x1 * x1 + 7) (h2 : y2 * y2 = x2 * x2 * x2 + 7) (h3 : y3 * y3 = x3 * x3 * x3 + 7) (d n a b c : zp_P) :
    zp_ev x1 x2 x3 y1 y2 y3 (zp_ny d n a b c) = ec_ny (zp_ev x1 x2 x3 y1 y2 y3 d) (zp_ev x1 x2 x3 y1 y2 y3 n) (zp_ev x1 x2 x3 y1 y2 y3 a) (zp_ev x1 x2 x3 y1 y2 y3 b) (zp_ev x1 x2 x3 y1 y2 y3 c) := by
  simp only [zp_ny, ec_ny, zp_ev_sb, zp_ev_nx h1 h2 h3, zp_ev_mu h1 h2 h3]
def zp_D : zp_P := zp_sb zp_x2 zp_x1
def zp_N : zp_P := zp_sb zp_y2 zp_y1
def zp_S : zp_P := zp_sb (zp_ng zp_y2) zp_y1
def zp_U : zp_P := zp_add zp_y1 zp_y1
def zp_V : zp_P := zp_mu (zp_k 3) (zp_mu zp_x1 zp_x1)
set_option maxRecDepth 100000 in
theorem zp_i1 : (zp_sb (zp_mu (zp_mu zp_D zp_D) (zp_X zp_p1 zp_p2)) (zp_mu (zp_nx zp_D zp_N zp_x1 zp_x2) (zp_Z zp_p1 zp_p2))).isEmpty = true := by decide +kernel
set_option maxRecDepth 100000 in
theorem zp_i2 : (zp_sb (zp_mu (zp_mu (zp_mu zp_D zp_D) zp_D) (zp_Y zp_p1 zp_p2)) (zp_mu (zp_ny zp_D zp_N zp_x1 zp_x2 zp_y1) (zp_Z zp_p1 zp_p2))).isEmpty = true := by decide +kernel
set_option maxRecDepth 100000 in
theorem zp_i3 : (zp_sb (zp_ny zp_D zp_S zp_x1 zp_x2 zp_y1) (zp_Z zp_p1 zp_p2)).isEmpty = true := by decide +kernel
set_option maxRecDepth 100000 in
theorem zp_i4 : (zp_sb (zp_mu (zp_ny zp_D zp_N zp_x1 zp_x2 zp_y1) (zp_ny zp_D zp_N zp_x1 zp_x2 zp_y1)) (zp_add (zp_mu (zp_mu (zp_nx zp_D zp_N zp_x1 zp_x2) (zp_nx zp_D zp_N zp_x1 zp_x2)) (zp_nx zp_D zp_N zp_x1 zp_x2)) (zp_mu (zp_k 7) (zp_mu (zp_mu (zp_mu zp_D zp_D) zp_D) (zp_mu (zp_mu zp_D zp_D) zp_D))))).isEmpty = true := by decide +kernel
set_option maxRecDepth 100000 in
theorem zp_i5 : (zp_sb (zp_mu (zp_mu zp_U zp_U) (zp_X zp_p1 zp_p1)) (zp_mu (zp_nx zp_U zp_V zp_x1 zp_x1) (zp_Z zp_p1 zp_p1))).isEmpty = true := by decide +kernel
set_option maxRecDepth 100000 in
theorem zp_i6 : (zp_sb (zp_mu (zp_mu (zp_mu zp_U zp_U) zp_U) (zp_Y zp_p1 zp_p1)) (zp_mu (zp_ny zp_U zp_V zp_x1 zp_x1 zp_y1) (zp_Z zp_p1 zp_p1))).isEmpty = true := by decide +kernel
set_option maxRecDepth 100000 in
theorem zp_i7 : (zp_sb (zp_Z zp_p1 zp_p1) (zp_mu (zp_mu zp_U zp_U) zp_U)).isEmpty = true := by decide +kernel
set_option maxRecDepth 100000 in
theorem zp_i8 : (zp_sb (zp_mu (zp_ny zp_U zp_V zp_x1 zp_x1 zp_y1) (zp_ny zp_U zp_V zp_x1 zp_x1 zp_y1)) (zp_add (zp_mu (zp_mu (zp_nx zp_U zp_V zp_x1 zp_x1) (zp_nx zp_U zp_V zp_x1 zp_x1)) (zp_nx zp_U zp_V zp_x1 zp_x1)) (zp_mu (zp_k 7) (zp_mu (zp_mu (zp_mu zp_U zp_U) zp_U) (zp_mu (zp_mu zp_U zp_U) zp_U))))).isEmpty = true := by decide +kernel
set_option maxRecDepth 100000 in
theorem zp_i9 : (zp_sb (zp_Y zp_p1 (zp_x1, zp_ng zp_y1, zp_k 1)) (zp_ny zp_U zp_V zp_x1 zp_x1 zp_y1)).isEmpty = true := by decide +kernel
section
theorem ec_i1 {K : Type} [Lean.Grind.CommRing K] {x1 x2 y1 y2 : K} (h1 : y1 * y1 = x1 * x1 * x1 + 7) (h2 : y2 * y2 = x2 * x2 * x2 + 7) :
    (x2 - x1) * (x2 - x1) * ec_X (x1, y1, 1) (x2, y2, 1) = ec_nx (x2 - x1) (y2 - y1) x1 x2 * ec_Z (x1, y1, 1) (x2, y2, 1) := by
  have h := zp_zero (x1 := x1) (x2 := x2) (x3 := x1) (y1 := y1) (y2 := y2) (y3 := y1) zp_i1
  simp only [zp_D, zp_N, zp_ev_sb, zp_ev_mu h1 h2 h1, zp_ev_nx h1 h2 h1, zp_ev_X h1 h2 h1, zp_ev_Z h1 h2 h1, zp_et_p1, zp_et_p2, zp_ev_x1, zp_ev_x2, zp_ev_y1, zp_ev_y2] at h
  exact ec_sub0 h
theorem ec_i2 {K : Type} [Lean.Grind.CommRing K] {x1 x2 y1 y2 : K} (h1 : y1 * y1 = x1 * x1 * x1 + 7) (h2 : y2 * y2 = x2 * x2 * x2 + 7) :
    (x2 - x1) * (x2 - x1) * (x2 - x1) * ec_Y (x1, y1, 1) (x2, y2, 1) = ec_ny (x2 - x1) (y2 - y1) x1 x2 y1 * ec_Z (x1, y1, 1) (x2, y2, 1) := by
  have h := zp_zero (x1 := x1) (x2 := x2) (x3 := x1) (y1 := y1) (y2 := y2) (y3 := y1) zp_i2
  simp only [zp_D, zp_N, zp_ev_sb, zp_ev_mu h1 h2 h1, zp_ev_ny h1 h2 h1, zp_ev_Y h1 h2 h1, zp_ev_Z h1 h2 h1, zp_et_p1, zp_et_p2, zp_ev_x1, zp_ev_x2, zp_ev_y1, zp_ev_y2] at h
  exact ec_sub0 h
theorem ec_i3 {K : Type} [Lean.Grind.CommRing K] {x1 x2 y1 y2 : K} (h1 : y1 * y1 = x1 * x1 * x1 + 7) (h2 : y2 * y2 = x2 * x2 * x2 + 7) :
    ec_ny (x2 - x1) (-y2 - y1) x1 x2 y1 = ec_Z (x1, y1, 1) (x2, y2, 1) := by
  have h := zp_zero (x1 := x1) (x2 := x2) (x3 := x1) (y1 := y1) (y2 := y2) (y3 := y1) zp_i3
  simp only [zp_D, zp_S, zp_ev_sb, zp_ev_ng, zp_ev_ny h1 h2 h1, zp_ev_Z h1 h2 h1, zp_et_p1, zp_et_p2, zp_ev_x1, zp_ev_x2, zp_ev_y1, zp_ev_y2] at h
  exact ec_sub0 h
theorem ec_i4 {K : Type} [Lean.Grind.CommRing K] {x1 x2 y1 y2 : K} (h1 : y1 * y1 = x1 * x1 * x1 + 7) (h2 : y2 * y2 = x2 * x2 * x2 + 7) :
    ec_ny (x2 - x1) (y2 - y1) x1 x2 y1 * ec_ny (x2 - x1) (y2 - y1) x1 x2 y1 = ec_nx (x2 - x1) (y2 - y1) x1 x2 * ec_nx (x2 - x1) (y2 - y1) x1 x2 * ec_nx (x2 - x1) (y2 - y1) x1 x2 + 7 * ((x2 - x1) * (x2 - x1) * (x2 - x1) * ((x2 - x1) * (x2 - x1) * (x2 - x1))) := by
  have h := zp_zero (x1 := x1) (x2 := x2) (x3 := x1) (y1 := y1) (y2 := y2) (y3 := y1) zp_i4
  simp only [zp_D, zp_N, zp_ev_sb, zp_ev_add, zp_ev_mu h1 h2 h1, zp_ev_ny h1 h2 h1, zp_ev_nx h1 h2 h1, zp_ev_x1, zp_ev_x2, zp_ev_y1, zp_ev_y2, zp_ev_k, show zp_c (K := K) 7 = 7 from zp_c_nat 7] at h
  exact ec_sub0 h
theorem ec_i5 {K : Type} [Lean.Grind.CommRing K] {x1 y1 : K} (h1 : y1 * y1 = x1 * x1 * x1 + 7) :
    (y1 + y1) * (y1 + y1) * ec_X (x1, y1, 1) (x1, y1, 1) = ec_nx (y1 + y1) (3 * (x1 * x1)) x1 x1 * ec_Z (x1, y1, 1) (x1, y1, 1) := by
  have h := zp_zero (x1 := x1) (x2 := x1) (x3 := x1) (y1 := y1) (y2 := y1) (y3 := y1) zp_i5
  simp only [zp_U, zp_V, zp_ev_sb, zp_ev_add, zp_ev_mu h1 h1 h1, zp_ev_nx h1 h1 h1, zp_ev_X h1 h1 h1, zp_ev_Z h1 h1 h1, zp_et_p1, zp_ev_x1, zp_ev_y1, zp_ev_k, show zp_c (K := K) 3 = 3 from zp_c_nat 3] at h
  exact ec_sub0 h
theorem ec_i6 {K : Type} [Lean.Grind.CommRing K] {x1 y1 : K} (h1 : y1 * y1 = x1 * x1 * x1 + 7) :
    (y1 + y1) * (y1 + y1) * (y1 + y1) * ec_Y (x1, y1, 1) (x1, y1, 1) = ec_ny (y1 + y1) (3 * (x1 * x1)) x1 x1 y1 * ec_Z (x1, y1, 1) (x1, y1, 1) := by
  have h := zp_zero (x1 := x1) (x2 := x1) (x3 := x1) (y1 := y1) (y2 := y1) (y3 := y1) zp_i6
  simp only [zp_U, zp_V, zp_ev_sb, zp_ev_add, zp_ev_mu h1 h1 h1, zp_ev_ny h1 h1 h1, zp_ev_Y h1 h1 h1, zp_ev_Z h1 h1 h1, zp_et_p1, zp_ev_x1, zp_ev_y1, zp_ev_k, show zp_c (K := K) 3 = 3 from zp_c_nat 3] at h
  exact ec_sub0 h
theorem ec_i7 {K : Type} [Lean.Grind.CommRing K] {x1 y1 : K} (h1 : y1 * y1 = x1 * x1 * x1 + 7) : ec_Z (x1, y1, 1) (x1, y1, 1) = (y1 + y1) * (y1 + y1) * (y1 + y1) := by
  have h := zp_zero (x1 := x1) (x2 := x1) (x3 := x1) (y1 := y1) (y2 := y1) (y3 := y1) zp_i7
  simp only [zp_U, zp_ev_sb, zp_ev_add, zp_ev_mu h1 h1 h1, zp_ev_Z h1 h1 h1, zp_et_p1, zp_ev_x1, zp_ev_y1] at h
  exact ec_sub0 h
theorem ec_i8 {K : Type} [Lean.Grind.CommRing K] {x1 y1 : K} (h1 : y1 * y1 = x1 * x1 * x1 + 7) :
    ec_ny (y1 + y1) (3 * (x1 * x1)) x1 x1 y1 * ec_ny (y1 + y1) (3 * (x1 * x1)) x1 x1 y1 = ec_nx (y1 + y1) (3 * (x1 * x1)) x1 x1 * ec_nx (y1 + y1) (3 * (x1 * x1)) x1 x1 * ec_nx (y1 + y1) (3 * (x1 * x1)) x1 x1 + 7 * ((y1 + y1) * (y1 + y1) * (y1 + y1) * ((y1 + y1) * (y1 + y1) * (y1 + y1))) := by
  have h := zp_zero (x1 := x1) (x2 := x1) (x3 := x1) (y1 := y1) (y2 := y1) (y3 := y1) zp_i8
  simp only [zp_U, zp_V, zp_ev_sb, zp_ev_add, zp_ev_mu h1 h1 h1, zp_ev_ny h1 h1 h1, zp_ev_nx h1 h1 h1, zp_ev_x1, zp_ev_y1, zp_ev_k, show zp_c (K := K) 7 = 7 from zp_c_nat 7, show zp_c (K := K) 3 = 3 from zp_c_nat 3] at h
  exact ec_sub0 h
theorem ec_i9 {K : Type} [Lean.Grind.CommRing K] {x1 y1 : K} (h1 : y1 * y1 = x1 * x1 * x1 + 7) : ec_Y (x1, y1, 1) (x1, -y1, 1) = ec_ny (y1 + y1) (3 * (x1 * x1)) x1 x1 y1 := by
  have h := zp_zero (x1 := x1) (x2 := x1) (x3 := x1) (y1 := y1) (y2 := y1) (y3 := y1) zp_i9
  rw [zp_ev_sb, zp_ev_Y h1 h1 h1, zp_ev_ny h1 h1 h1, zp_et_p1] at h
  simp only [zp_et, zp_U, zp_V, zp_ev_ng, zp_ev_add, zp_ev_mu h1 h1 h1, zp_ev_x1, zp_ev_y1, zp_ev_k, zp_c_1, show zp_c (K := K) 3 = 3 from zp_c_nat 3] at h
  exact ec_sub0 h
end
end
section
/-! The two ways to add three points, as polynomials written out. -/
def zp_mb : Nat → zp_P → zp_P → zp_P
  | 0, p, q => zp_mr p q
  | n + 1, p, q => zp_add (zp_mb n (p.take (p.length / 2)) q) (zp_mb n (p.drop (p.length / 2)) q)
def zp_mv (n : Nat) (p q : zp_P) : zp_P := zp_rd zp_h3 zp_b3 zp_c3 (zp_rd zp_h2 zp_b2 zp_c2 (zp_rd zp_h1 zp_b1 zp_c1 (zp_mb n p q)))
theorem zp_ev_app {K : Type} [Lean.Grind.CommRing K] (x1 x2 x3 y1 y2 y3 : K) (p q : zp_P) : zp_ev x1 x2 x3 y1 y2 y3 (p ++ q) = zp_ev x1 x2 x3 y1 y2 y3 p + zp_ev x1 x2 x3 y1 y2 y3 q := by
  induction p with
  | nil => simp only [List.nil_append, zp_ev]; grind
  | cons t p ih => simp only [List.cons_append, zp_ev, ih]; grind
theorem zp_ev_mb {K : Type} [Lean.Grind.CommRing K] (x1 x2 x3 y1 y2 y3 : K) (n : Nat) (p q : zp_P) : zp_ev x1 x2 x3 y1 y2 y3 (zp_mb n p q) = zp_ev x1 x2 x3 y1 y2 y3 p * zp_ev x1 x2 x3 y1 y2 y3 q := by
  induction n generalizing p with
  | zero => exact zp_ev_mr x1 x2 x3 y1 y2 y3 p q
  | succ n ih =>
    simp only [zp_mb, zp_ev_add, ih]
    have h := zp_ev_app x1 x2 x3 y1 y2 y3 (p.take (p.length / 2)) (p.drop (p.length / 2))
    rw [List.take_append_drop] at h
    rw [h]
    grind
theorem zp_ev_mv {K : Type} [Lean.Grind.CommRing K] {x1 x2 x3 y1 y2 y3 : K} (h1 : y1 * y1 = x1 * x1 * x1 + 7) (h2 : y2 * y2 = x2 * x2 * x2 + 7) (h3 : y3 * y3 = x3 * x3 * x3 + 7) (n : Nat) (p q : zp_P) :
    zp_ev x1 x2 x3 y1 y2 y3 (zp_mv n p q) = zp_ev x1 x2 x3 y1 y2 y3 p * zp_ev x1 x2 x3 y1 y2 y3 q := by
  have h : ∀ z : zp_P, zp_ev x1 x2 x3 y1 y2 y3 (zp_rd zp_h3 zp_b3 zp_c3 (zp_rd zp_h2 zp_b2 zp_c2 (zp_rd zp_h1 zp_b1 zp_c1 z))) = zp_ev x1 x2 x3 y1 y2 y3 z := by
    intro z
    rw [zp_ev_rd, zp_ev_rd, zp_ev_rd]
    · intro k hk
      simp only [zp_mo, zp_b1, zp_c1]
      rw [zp_pw y1 hk, h1, zp_pw3]
      grind
    · intro k hk
      simp only [zp_mo, zp_b2, zp_c2]
      rw [zp_pw y2 hk, h2, zp_pw3]
      grind
    · intro k hk
      simp only [zp_mo, zp_b3, zp_c3]
      rw [zp_pw y3 hk, h3, zp_pw3]
      grind
  unfold zp_mv
  rw [h, zp_ev_mb]
def zl_U1 : zp_P := [((3, 1, 0, 0, 1, 0), 1), ((0, 1, 0, 0, 1, 0), (-14)), ((1, 0, 0, 0, 1, 0), (-42)), ((1, 3, 0, 1, 0, 0), 1), ((0, 1, 0, 1, 0, 0), (-42)), ((1, 0, 0, 1, 0, 0), (-14))]
def zl_U2 : zp_P := [((3, 3, 0, 0, 0, 0), 1), ((0, 3, 0, 0, 0, 0), 7), ((1, 2, 0, 0, 0, 0), 63), ((2, 1, 0, 0, 0, 0), 63), ((3, 0, 0, 0, 0, 0), 7), ((0, 0, 0, 0, 0, 0), (-392))]
def zl_U3 : zp_P := [((2, 1, 0, 0, 1, 0), 3), ((3, 0, 0, 0, 1, 0), 1), ((0, 0, 0, 0, 1, 0), 28), ((0, 3, 0, 1, 0, 0), 1), ((1, 2, 0, 1, 0, 0), 3), ((0, 0, 0, 1, 0, 0), 28)]
def zl_V1 : zp_P := [((0, 3, 1, 0, 0, 1), 1), ((0, 0, 1, 0, 0, 1), (-14)), ((0, 1, 0, 0, 0, 1), (-42)), ((0, 1, 3, 0, 1, 0), 1), ((0, 0, 1, 0, 1, 0), (-42)), ((0, 1, 0, 0, 1, 0), (-14))]
def zl_V2 : zp_P := [((0, 3, 3, 0, 0, 0), 1), ((0, 0, 3, 0, 0, 0), 7), ((0, 1, 2, 0, 0, 0), 63), ((0, 2, 1, 0, 0, 0), 63), ((0, 3, 0, 0, 0, 0), 7), ((0, 0, 0, 0, 0, 0), (-392))]
def zl_V3 : zp_P := [((0, 2, 1, 0, 0, 1), 3), ((0, 3, 0, 0, 0, 1), 1), ((0, 0, 0, 0, 0, 1), 28), ((0, 0, 3, 0, 1, 0), 1), ((0, 1, 2, 0, 1, 0), 3), ((0, 0, 0, 0, 1, 0), 28)]
def zl_L1 : zp_P := [((2, 4, 1, 1, 1, 1), (-126)), ((3, 3, 1, 1, 1, 1), (-420)), ((0, 3, 1, 1, 1, 1), (-1176)), ((4, 2, 1, 1, 1, 1), (-126)), ((1, 2, 1, 1, 1, 1), (-3528)), ((2, 1, 1, 1, 1, 1), (-3528)), ((3, 0, 1, 1, 1, 1), (-1176)), ((0, 0, 1, 1, 1, 1), (-32928)), ((3, 4, 0, 1, 1, 1), (-168)), ((0, 4, 0, 1, 1, 1), 588), ((4, 3, 0, 1, 1, 1), (-168)), ((1, 3, 0, 1, 1, 1), 2352), ((2, 2, 0, 1, 1, 1), 10584), ((3, 1, 0, 1, 1, 1), 2352), ((0, 1, 0, 1, 1, 1), 65856), ((4, 0, 0, 1, 1, 1), 588), ((1, 0, 0, 1, 1, 1), 65856), ((6, 6, 1, 0, 0, 1), 1), ((3, 6, 1, 0, 0, 1), (-7)), ((0, 6, 1, 0, 0, 1), (-98)), ((4, 5, 1, 0, 0, 1), (-189)), ((5, 4, 1, 0, 0, 1), (-189)), ((6, 3, 1, 0, 0, 1), (-7)), ((3, 3, 1, 0, 0, 1), 4900), ((0, 3, 1, 0, 0, 1), (-30184)), ((1, 2, 1, 0, 0, 1), (-74088)), ((2, 1, 1, 0, 0, 1), (-74088)), ((6, 0, 1, 0, 0, 1), (-98)), ((3, 0, 1, 0, 0, 1), (-30184)), ((0, 0, 1, 0, 0, 1), (-76832)), ((4, 6, 0, 0, 0, 1), (-42)), ((1, 6, 0, 0, 0, 1), (-294)), ((5, 5, 0, 0, 0, 1), (-252)), ((2, 5, 0, 0, 0, 1), 882), ((6, 4, 0, 0, 0, 1), (-42)), ((3, 4, 0, 0, 0, 1), 6468), ((0, 4, 0, 0, 0, 1), 28812), ((4, 3, 0, 0, 0, 1), 6468), ((1, 3, 0, 0, 0, 1), 82320), ((5, 2, 0, 0, 0, 1), 882), ((2, 2, 0, 0, 0, 1), 24696), ((6, 1, 0, 0, 0, 1), (-294)), ((3, 1, 0, 0, 0, 1), 82320), ((0, 1, 0, 0, 0, 1), 460992), ((4, 0, 0, 0, 0, 1), 28812), ((1, 0, 0, 0, 0, 1), 460992), ((6, 4, 3, 0, 1, 0), 1), ((3, 4, 3, 0, 1, 0), (-7)), ((0, 4, 3, 0, 1, 0), (-98)), ((4, 3, 3, 0, 1, 0), 21), ((1, 3, 3, 0, 1, 0), (-1176)), ((5, 2, 3, 0, 1, 0), 63), ((2, 2, 3, 0, 1, 0), (-3528)), ((6, 1, 3, 0, 1, 0), 7), ((3, 1, 3, 0, 1, 0), (-3136)), ((0, 1, 3, 0, 1, 0), 5488), ((4, 0, 3, 0, 1, 0), (-294)), ((1, 0, 3, 0, 1, 0), 16464), ((5, 4, 1, 0, 1, 0), (-126)), ((2, 4, 1, 0, 1, 0), (-882)), ((6, 3, 1, 0, 1, 0), (-42)), ((3, 3, 1, 0, 1, 0), (-9408)), ((0, 3, 1, 0, 1, 0), (-8232)), ((4, 2, 1, 0, 1, 0), (-10584)), ((1, 2, 1, 0, 1, 0), (-74088)), ((5, 1, 1, 0, 1, 0), (-3528)), ((2, 1, 1, 0, 1, 0), (-24696)), ((6, 0, 1, 0, 1, 0), (-294)), ((3, 0, 1, 0, 1, 0), 8232), ((0, 0, 1, 0, 1, 0), 460992), ((6, 4, 0, 0, 1, 0), (-14)), ((3, 4, 0, 0, 1, 0), 98), ((0, 4, 0, 0, 1, 0), 1372), ((4, 3, 0, 0, 1, 0), (-294)), ((1, 3, 0, 0, 1, 0), 16464), ((5, 2, 0, 0, 1, 0), (-882)), ((2, 2, 0, 0, 1, 0), 49392), ((6, 1, 0, 0, 1, 0), (-98)), ((3, 1, 0, 0, 1, 0), 43904), ((0, 1, 0, 0, 1, 0), (-76832)), ((4, 0, 0, 0, 1, 0), 4116), ((1, 0, 0, 0, 1, 0), (-230496)), ((4, 6, 3, 1, 0, 0), 1), ((1, 6, 3, 1, 0, 0), 7), ((2, 5, 3, 1, 0, 0), 63), ((3, 4, 3, 1, 0, 0), 21), ((0, 4, 3, 1, 0, 0), (-294)), ((4, 3, 3, 1, 0, 0), (-7)), ((1, 3, 3, 1, 0, 0), (-3136)), ((2, 2, 3, 1, 0, 0), (-3528)), ((3, 1, 3, 1, 0, 0), (-1176)), ((0, 1, 3, 1, 0, 0), 16464), ((4, 0, 3, 1, 0, 0), (-98)), ((1, 0, 3, 1, 0, 0), 5488), ((3, 6, 1, 1, 0, 0), (-42)), ((0, 6, 1, 1, 0, 0), (-294)), ((4, 5, 1, 1, 0, 0), (-126)), ((1, 5, 1, 1, 0, 0), (-3528)), ((2, 4, 1, 1, 0, 0), (-10584)), ((3, 3, 1, 1, 0, 0), (-9408)), ((0, 3, 1, 1, 0, 0), 8232), ((4, 2, 1, 1, 0, 0), (-882)), ((1, 2, 1, 1, 0, 0), (-24696)), ((2, 1, 1, 1, 0, 0), (-74088)), ((3, 0, 1, 1, 0, 0), (-8232)), ((0, 0, 1, 1, 0, 0), 460992), ((4, 6, 0, 1, 0, 0), (-14)), ((1, 6, 0, 1, 0, 0), (-98)), ((2, 5, 0, 1, 0, 0), (-882)), ((3, 4, 0, 1, 0, 0), (-294)), ((0, 4, 0, 1, 0, 0), 4116), ((4, 3, 0, 1, 0, 0), 98), ((1, 3, 0, 1, 0, 0), 43904), ((2, 2, 0, 1, 0, 0), 49392), ((3, 1, 0, 1, 0, 0), 16464), ((0, 1, 0, 1, 0, 0), (-230496)), ((4, 0, 0, 1, 0, 0), 1372), ((1, 0, 0, 1, 0, 0), (-76832))]
def zl_L2 : zp_P := [((3, 4, 2, 1, 1, 0), 252), ((0, 4, 2, 1, 1, 0), (-882)), ((4, 3, 2, 1, 1, 0), 252), ((1, 3, 2, 1, 1, 0), (-3528)), ((2, 2, 2, 1, 1, 0), (-15876)), ((3, 1, 2, 1, 1, 0), (-3528)), ((0, 1, 2, 1, 1, 0), (-98784)), ((4, 0, 2, 1, 1, 0), (-882)), ((1, 0, 2, 1, 1, 0), (-98784)), ((4, 4, 1, 1, 1, 0), 126), ((1, 4, 1, 1, 1, 0), (-1764)), ((2, 3, 1, 1, 1, 0), (-5292)), ((3, 2, 1, 1, 1, 0), (-5292)), ((0, 2, 1, 1, 1, 0), 74088), ((4, 1, 1, 1, 1, 0), (-1764)), ((1, 1, 1, 1, 1, 0), 246960), ((2, 0, 1, 1, 1, 0), 74088), ((2, 4, 0, 1, 1, 0), (-2646)), ((3, 3, 0, 1, 1, 0), (-8820)), ((0, 3, 0, 1, 1, 0), (-24696)), ((4, 2, 0, 1, 1, 0), (-2646)), ((1, 2, 0, 1, 1, 0), (-74088)), ((2, 1, 0, 1, 1, 0), (-74088)), ((3, 0, 0, 1, 1, 0), (-24696)), ((0, 0, 0, 1, 1, 0), (-691488)), ((6, 6, 3, 0, 0, 0), 1), ((3, 6, 3, 0, 0, 0), 14), ((0, 6, 3, 0, 0, 0), 49), ((4, 5, 3, 0, 0, 0), 126), ((1, 5, 3, 0, 0, 0), 882), ((5, 4, 3, 0, 0, 0), 126), ((2, 4, 3, 0, 0, 0), 4851), ((6, 3, 3, 0, 0, 0), 14), ((3, 3, 3, 0, 0, 0), 7252), ((0, 3, 3, 0, 0, 0), (-5488)), ((4, 2, 3, 0, 0, 0), 4851), ((1, 2, 3, 0, 0, 0), (-49392)), ((5, 1, 3, 0, 0, 0), 882), ((2, 1, 3, 0, 0, 0), (-49392)), ((6, 0, 3, 0, 0, 0), 49), ((3, 0, 3, 0, 0, 0), (-5488)), ((0, 0, 3, 0, 0, 0), 153664), ((4, 6, 2, 0, 0, 0), 63), ((1, 6, 2, 0, 0, 0), 441), ((5, 5, 2, 0, 0, 0), 378), ((2, 5, 2, 0, 0, 0), (-1323)), ((6, 4, 2, 0, 0, 0), 63), ((3, 4, 2, 0, 0, 0), (-9702)), ((0, 4, 2, 0, 0, 0), (-43218)), ((4, 3, 2, 0, 0, 0), (-9702)), ((1, 3, 2, 0, 0, 0), (-123480)), ((5, 2, 2, 0, 0, 0), (-1323)), ((2, 2, 2, 0, 0, 0), (-37044)), ((6, 1, 2, 0, 0, 0), 441), ((3, 1, 2, 0, 0, 0), (-123480)), ((0, 1, 2, 0, 0, 0), (-691488)), ((4, 0, 2, 0, 0, 0), (-43218)), ((1, 0, 2, 0, 0, 0), (-691488)), ((5, 6, 1, 0, 0, 0), 63), ((2, 6, 1, 0, 0, 0), 441), ((6, 5, 1, 0, 0, 0), 63), ((3, 5, 1, 0, 0, 0), (-1764)), ((0, 5, 1, 0, 0, 0), 12348), ((4, 4, 1, 0, 0, 0), (-10584)), ((1, 4, 1, 0, 0, 0), 37044), ((5, 3, 1, 0, 0, 0), (-1764)), ((2, 3, 1, 0, 0, 0), 98784), ((6, 2, 1, 0, 0, 0), 441), ((3, 2, 1, 0, 0, 0), 98784), ((0, 2, 1, 0, 0, 0), 864360), ((4, 1, 1, 0, 0, 0), 37044), ((1, 1, 1, 0, 0, 0), 1037232), ((5, 0, 1, 0, 0, 0), 12348), ((2, 0, 1, 0, 0, 0), 864360), ((6, 6, 0, 0, 0, 0), 7), ((3, 6, 0, 0, 0, 0), (-343)), ((0, 6, 0, 0, 0, 0), (-2744)), ((4, 5, 0, 0, 0, 0), (-5733)), ((1, 5, 0, 0, 0, 0), (-12348)), ((5, 4, 0, 0, 0, 0), (-5733)), ((2, 4, 0, 0, 0, 0), (-67914)), ((6, 3, 0, 0, 0, 0), (-343)), ((3, 3, 0, 0, 0, 0), 1372), ((0, 3, 0, 0, 0, 0), (-557032)), ((4, 2, 0, 0, 0, 0), (-67914)), ((1, 2, 0, 0, 0, 0), (-864360)), ((5, 1, 0, 0, 0, 0), (-12348)), ((2, 1, 0, 0, 0, 0), (-864360)), ((6, 0, 0, 0, 0, 0), (-2744)), ((3, 0, 0, 0, 0, 0), (-557032)), ((0, 0, 0, 0, 0, 0), (-3764768))]
def zl_L3 : zp_P := [((4, 4, 1, 1, 1, 1), 6), ((1, 4, 1, 1, 1, 1), (-84)), ((2, 3, 1, 1, 1, 1), (-252)), ((3, 2, 1, 1, 1, 1), (-252)), ((0, 2, 1, 1, 1, 1), 3528), ((4, 1, 1, 1, 1, 1), (-84)), ((1, 1, 1, 1, 1, 1), 11760), ((2, 0, 1, 1, 1, 1), 3528), ((2, 4, 0, 1, 1, 1), 126), ((3, 3, 0, 1, 1, 1), 420), ((0, 3, 0, 1, 1, 1), 1176), ((4, 2, 0, 1, 1, 1), 126), ((1, 2, 0, 1, 1, 1), 3528), ((2, 1, 0, 1, 1, 1), 3528), ((3, 0, 0, 1, 1, 1), 1176), ((0, 0, 0, 1, 1, 1), 32928), ((5, 6, 1, 0, 0, 1), 3), ((2, 6, 1, 0, 0, 1), 21), ((6, 5, 1, 0, 0, 1), 3), ((3, 5, 1, 0, 0, 1), (-84)), ((0, 5, 1, 0, 0, 1), 588), ((4, 4, 1, 0, 0, 1), (-504)), ((1, 4, 1, 0, 0, 1), 1764), ((5, 3, 1, 0, 0, 1), (-84)), ((2, 3, 1, 0, 0, 1), 4704), ((6, 2, 1, 0, 0, 1), 21), ((3, 2, 1, 0, 0, 1), 4704), ((0, 2, 1, 0, 0, 1), 41160), ((4, 1, 1, 0, 0, 1), 1764), ((1, 1, 1, 0, 0, 1), 49392), ((5, 0, 1, 0, 0, 1), 588), ((2, 0, 1, 0, 0, 1), 41160), ((6, 6, 0, 0, 0, 1), 1), ((3, 6, 0, 0, 0, 1), 35), ((0, 6, 0, 0, 0, 1), 196), ((4, 5, 0, 0, 0, 1), 441), ((1, 5, 0, 0, 0, 1), 1764), ((5, 4, 0, 0, 0, 1), 441), ((2, 4, 0, 0, 0, 1), 9702), ((6, 3, 0, 0, 0, 1), 35), ((3, 3, 0, 0, 0, 1), 9604), ((0, 3, 0, 0, 0, 1), 19208), ((4, 2, 0, 0, 0, 1), 9702), ((1, 2, 0, 0, 0, 1), (-24696)), ((5, 1, 0, 0, 0, 1), 1764), ((2, 1, 0, 0, 0, 1), (-24696)), ((6, 0, 0, 0, 0, 1), 196), ((3, 0, 0, 0, 0, 1), 19208), ((0, 0, 0, 0, 0, 1), 384160), ((5, 4, 3, 0, 1, 0), 3), ((2, 4, 3, 0, 1, 0), 21), ((6, 3, 3, 0, 1, 0), 1), ((3, 3, 3, 0, 1, 0), 224), ((0, 3, 3, 0, 1, 0), 196), ((4, 2, 3, 0, 1, 0), 252), ((1, 2, 3, 0, 1, 0), 1764), ((5, 1, 3, 0, 1, 0), 84), ((2, 1, 3, 0, 1, 0), 588), ((6, 0, 3, 0, 1, 0), 7), ((3, 0, 3, 0, 1, 0), (-196)), ((0, 0, 3, 0, 1, 0), (-10976)), ((6, 4, 2, 0, 1, 0), 3), ((3, 4, 2, 0, 1, 0), (-21)), ((0, 4, 2, 0, 1, 0), (-294)), ((4, 3, 2, 0, 1, 0), 63), ((1, 3, 2, 0, 1, 0), (-3528)), ((5, 2, 2, 0, 1, 0), 189), ((2, 2, 2, 0, 1, 0), (-10584)), ((6, 1, 2, 0, 1, 0), 21), ((3, 1, 2, 0, 1, 0), (-9408)), ((0, 1, 2, 0, 1, 0), 16464), ((4, 0, 2, 0, 1, 0), (-882)), ((1, 0, 2, 0, 1, 0), 49392), ((5, 4, 0, 0, 1, 0), 84), ((2, 4, 0, 0, 1, 0), 588), ((6, 3, 0, 0, 1, 0), 28), ((3, 3, 0, 0, 1, 0), 6272), ((0, 3, 0, 0, 1, 0), 5488), ((4, 2, 0, 0, 1, 0), 7056), ((1, 2, 0, 0, 1, 0), 49392), ((5, 1, 0, 0, 1, 0), 2352), ((2, 1, 0, 0, 1, 0), 16464), ((6, 0, 0, 0, 1, 0), 196), ((3, 0, 0, 0, 1, 0), (-5488)), ((0, 0, 0, 0, 1, 0), (-307328)), ((3, 6, 3, 1, 0, 0), 1), ((0, 6, 3, 1, 0, 0), 7), ((4, 5, 3, 1, 0, 0), 3), ((1, 5, 3, 1, 0, 0), 84), ((2, 4, 3, 1, 0, 0), 252), ((3, 3, 3, 1, 0, 0), 224), ((0, 3, 3, 1, 0, 0), (-196)), ((4, 2, 3, 1, 0, 0), 21), ((1, 2, 3, 1, 0, 0), 588), ((2, 1, 3, 1, 0, 0), 1764), ((3, 0, 3, 1, 0, 0), 196), ((0, 0, 3, 1, 0, 0), (-10976)), ((4, 6, 2, 1, 0, 0), 3), ((1, 6, 2, 1, 0, 0), 21), ((2, 5, 2, 1, 0, 0), 189), ((3, 4, 2, 1, 0, 0), 63), ((0, 4, 2, 1, 0, 0), (-882)), ((4, 3, 2, 1, 0, 0), (-21)), ((1, 3, 2, 1, 0, 0), (-9408)), ((2, 2, 2, 1, 0, 0), (-10584)), ((3, 1, 2, 1, 0, 0), (-3528)), ((0, 1, 2, 1, 0, 0), 49392), ((4, 0, 2, 1, 0, 0), (-294)), ((1, 0, 2, 1, 0, 0), 16464), ((3, 6, 0, 1, 0, 0), 28), ((0, 6, 0, 1, 0, 0), 196), ((4, 5, 0, 1, 0, 0), 84), ((1, 5, 0, 1, 0, 0), 2352), ((2, 4, 0, 1, 0, 0), 7056), ((3, 3, 0, 1, 0, 0), 6272), ((0, 3, 0, 1, 0, 0), (-5488)), ((4, 2, 0, 1, 0, 0), 588), ((1, 2, 0, 1, 0, 0), 16464), ((2, 1, 0, 1, 0, 0), 49392), ((3, 0, 0, 1, 0, 0), 5488), ((0, 0, 0, 1, 0, 0), (-307328))]
def zl_R1 : zp_P := [((0, 3, 4, 1, 1, 1), (-168)), ((1, 2, 4, 1, 1, 1), (-126)), ((0, 0, 4, 1, 1, 1), 588), ((0, 4, 3, 1, 1, 1), (-168)), ((1, 3, 3, 1, 1, 1), (-420)), ((0, 1, 3, 1, 1, 1), 2352), ((1, 0, 3, 1, 1, 1), (-1176)), ((1, 4, 2, 1, 1, 1), (-126)), ((0, 2, 2, 1, 1, 1), 10584), ((1, 1, 2, 1, 1, 1), (-3528)), ((0, 3, 1, 1, 1, 1), 2352), ((1, 2, 1, 1, 1, 1), (-3528)), ((0, 0, 1, 1, 1, 1), 65856), ((0, 4, 0, 1, 1, 1), 588), ((1, 3, 0, 1, 1, 1), (-1176)), ((0, 1, 0, 1, 1, 1), 65856), ((1, 0, 0, 1, 1, 1), (-32928)), ((3, 6, 4, 0, 0, 1), 1), ((0, 6, 4, 0, 0, 1), (-14)), ((1, 5, 4, 0, 0, 1), (-126)), ((3, 3, 4, 0, 0, 1), (-7)), ((0, 3, 4, 0, 0, 1), 98), ((1, 2, 4, 0, 0, 1), (-882)), ((3, 0, 4, 0, 0, 1), (-98)), ((0, 0, 4, 0, 0, 1), 1372), ((1, 6, 3, 0, 0, 1), (-42)), ((3, 4, 3, 0, 0, 1), 21), ((0, 4, 3, 0, 0, 1), (-294)), ((1, 3, 3, 0, 0, 1), (-9408)), ((3, 1, 3, 0, 0, 1), (-1176)), ((0, 1, 3, 0, 0, 1), 16464), ((1, 0, 3, 0, 0, 1), (-8232)), ((3, 5, 2, 0, 0, 1), 63), ((0, 5, 2, 0, 0, 1), (-882)), ((1, 4, 2, 0, 0, 1), (-10584)), ((3, 2, 2, 0, 0, 1), (-3528)), ((0, 2, 2, 0, 0, 1), 49392), ((1, 1, 2, 0, 0, 1), (-74088)), ((3, 6, 1, 0, 0, 1), 7), ((0, 6, 1, 0, 0, 1), (-98)), ((1, 5, 1, 0, 0, 1), (-3528)), ((3, 3, 1, 0, 0, 1), (-3136)), ((0, 3, 1, 0, 0, 1), 43904), ((1, 2, 1, 0, 0, 1), (-24696)), ((3, 0, 1, 0, 0, 1), 5488), ((0, 0, 1, 0, 0, 1), (-76832)), ((1, 6, 0, 0, 0, 1), (-294)), ((3, 4, 0, 0, 0, 1), (-294)), ((0, 4, 0, 0, 0, 1), 4116), ((1, 3, 0, 0, 0, 1), 8232), ((3, 1, 0, 0, 0, 1), 16464), ((0, 1, 0, 0, 0, 1), (-230496)), ((1, 0, 0, 0, 0, 1), 460992), ((3, 4, 6, 0, 1, 0), 1), ((0, 4, 6, 0, 1, 0), (-14)), ((1, 3, 6, 0, 1, 0), (-42)), ((3, 1, 6, 0, 1, 0), 7), ((0, 1, 6, 0, 1, 0), (-98)), ((1, 0, 6, 0, 1, 0), (-294)), ((1, 4, 5, 0, 1, 0), (-126)), ((3, 2, 5, 0, 1, 0), 63), ((0, 2, 5, 0, 1, 0), (-882)), ((1, 1, 5, 0, 1, 0), (-3528)), ((3, 3, 4, 0, 1, 0), 21), ((0, 3, 4, 0, 1, 0), (-294)), ((1, 2, 4, 0, 1, 0), (-10584)), ((3, 0, 4, 0, 1, 0), (-294)), ((0, 0, 4, 0, 1, 0), 4116), ((3, 4, 3, 0, 1, 0), (-7)), ((0, 4, 3, 0, 1, 0), 98), ((1, 3, 3, 0, 1, 0), (-9408)), ((3, 1, 3, 0, 1, 0), (-3136)), ((0, 1, 3, 0, 1, 0), 43904), ((1, 0, 3, 0, 1, 0), 8232), ((1, 4, 2, 0, 1, 0), (-882)), ((3, 2, 2, 0, 1, 0), (-3528)), ((0, 2, 2, 0, 1, 0), 49392), ((1, 1, 2, 0, 1, 0), (-24696)), ((3, 3, 1, 0, 1, 0), (-1176)), ((0, 3, 1, 0, 1, 0), 16464), ((1, 2, 1, 0, 1, 0), (-74088)), ((3, 0, 1, 0, 1, 0), 16464), ((0, 0, 1, 0, 1, 0), (-230496)), ((3, 4, 0, 0, 1, 0), (-98)), ((0, 4, 0, 0, 1, 0), 1372), ((1, 3, 0, 0, 1, 0), (-8232)), ((3, 1, 0, 0, 1, 0), 5488), ((0, 1, 0, 0, 1, 0), (-76832)), ((1, 0, 0, 0, 1, 0), 460992), ((1, 6, 6, 1, 0, 0), 1), ((0, 4, 6, 1, 0, 0), (-42)), ((1, 3, 6, 1, 0, 0), (-7)), ((0, 1, 6, 1, 0, 0), (-294)), ((1, 0, 6, 1, 0, 0), (-98)), ((0, 5, 5, 1, 0, 0), (-252)), ((1, 4, 5, 1, 0, 0), (-189)), ((0, 2, 5, 1, 0, 0), 882), ((0, 6, 4, 1, 0, 0), (-42)), ((1, 5, 4, 1, 0, 0), (-189)), ((0, 3, 4, 1, 0, 0), 6468), ((0, 0, 4, 1, 0, 0), 28812), ((1, 6, 3, 1, 0, 0), (-7)), ((0, 4, 3, 1, 0, 0), 6468), ((1, 3, 3, 1, 0, 0), 4900), ((0, 1, 3, 1, 0, 0), 82320), ((1, 0, 3, 1, 0, 0), (-30184)), ((0, 5, 2, 1, 0, 0), 882), ((0, 2, 2, 1, 0, 0), 24696), ((1, 1, 2, 1, 0, 0), (-74088)), ((0, 6, 1, 1, 0, 0), (-294)), ((0, 3, 1, 1, 0, 0), 82320), ((1, 2, 1, 1, 0, 0), (-74088)), ((0, 0, 1, 1, 0, 0), 460992), ((1, 6, 0, 1, 0, 0), (-98)), ((0, 4, 0, 1, 0, 0), 28812), ((1, 3, 0, 1, 0, 0), (-30184)), ((0, 1, 0, 1, 0, 0), 460992), ((1, 0, 0, 1, 0, 0), (-76832))]
def zl_R2 : zp_P := [((1, 4, 4, 0, 1, 1), 126), ((2, 3, 4, 0, 1, 1), 252), ((0, 2, 4, 0, 1, 1), (-2646)), ((1, 1, 4, 0, 1, 1), (-1764)), ((2, 0, 4, 0, 1, 1), (-882)), ((2, 4, 3, 0, 1, 1), 252), ((0, 3, 3, 0, 1, 1), (-8820)), ((1, 2, 3, 0, 1, 1), (-5292)), ((2, 1, 3, 0, 1, 1), (-3528)), ((0, 0, 3, 0, 1, 1), (-24696)), ((0, 4, 2, 0, 1, 1), (-2646)), ((1, 3, 2, 0, 1, 1), (-5292)), ((2, 2, 2, 0, 1, 1), (-15876)), ((0, 1, 2, 0, 1, 1), (-74088)), ((1, 0, 2, 0, 1, 1), 74088), ((1, 4, 1, 0, 1, 1), (-1764)), ((2, 3, 1, 0, 1, 1), (-3528)), ((0, 2, 1, 0, 1, 1), (-74088)), ((1, 1, 1, 0, 1, 1), 246960), ((2, 0, 1, 0, 1, 1), (-98784)), ((2, 4, 0, 0, 1, 1), (-882)), ((0, 3, 0, 0, 1, 1), (-24696)), ((1, 2, 0, 0, 1, 1), 74088), ((2, 1, 0, 0, 1, 1), (-98784)), ((0, 0, 0, 0, 1, 1), (-691488)), ((3, 6, 6, 0, 0, 0), 1), ((0, 6, 6, 0, 0, 0), 7), ((1, 5, 6, 0, 0, 0), 63), ((2, 4, 6, 0, 0, 0), 63), ((3, 3, 6, 0, 0, 0), 14), ((0, 3, 6, 0, 0, 0), (-343)), ((1, 2, 6, 0, 0, 0), 441), ((2, 1, 6, 0, 0, 0), 441), ((3, 0, 6, 0, 0, 0), 49), ((0, 0, 6, 0, 0, 0), (-2744)), ((1, 6, 5, 0, 0, 0), 63), ((2, 5, 5, 0, 0, 0), 378), ((3, 4, 5, 0, 0, 0), 126), ((0, 4, 5, 0, 0, 0), (-5733)), ((1, 3, 5, 0, 0, 0), (-1764)), ((2, 2, 5, 0, 0, 0), (-1323)), ((3, 1, 5, 0, 0, 0), 882), ((0, 1, 5, 0, 0, 0), (-12348)), ((1, 0, 5, 0, 0, 0), 12348), ((2, 6, 4, 0, 0, 0), 63), ((3, 5, 4, 0, 0, 0), 126), ((0, 5, 4, 0, 0, 0), (-5733)), ((1, 4, 4, 0, 0, 0), (-10584)), ((2, 3, 4, 0, 0, 0), (-9702)), ((3, 2, 4, 0, 0, 0), 4851), ((0, 2, 4, 0, 0, 0), (-67914)), ((1, 1, 4, 0, 0, 0), 37044), ((2, 0, 4, 0, 0, 0), (-43218)), ((3, 6, 3, 0, 0, 0), 14), ((0, 6, 3, 0, 0, 0), (-343)), ((1, 5, 3, 0, 0, 0), (-1764)), ((2, 4, 3, 0, 0, 0), (-9702)), ((3, 3, 3, 0, 0, 0), 7252), ((0, 3, 3, 0, 0, 0), 1372), ((1, 2, 3, 0, 0, 0), 98784), ((2, 1, 3, 0, 0, 0), (-123480)), ((3, 0, 3, 0, 0, 0), (-5488)), ((0, 0, 3, 0, 0, 0), (-557032)), ((1, 6, 2, 0, 0, 0), 441), ((2, 5, 2, 0, 0, 0), (-1323)), ((3, 4, 2, 0, 0, 0), 4851), ((0, 4, 2, 0, 0, 0), (-67914)), ((1, 3, 2, 0, 0, 0), 98784), ((2, 2, 2, 0, 0, 0), (-37044)), ((3, 1, 2, 0, 0, 0), (-49392)), ((0, 1, 2, 0, 0, 0), (-864360)), ((1, 0, 2, 0, 0, 0), 864360), ((2, 6, 1, 0, 0, 0), 441), ((3, 5, 1, 0, 0, 0), 882), ((0, 5, 1, 0, 0, 0), (-12348)), ((1, 4, 1, 0, 0, 0), 37044), ((2, 3, 1, 0, 0, 0), (-123480)), ((3, 2, 1, 0, 0, 0), (-49392)), ((0, 2, 1, 0, 0, 0), (-864360)), ((1, 1, 1, 0, 0, 0), 1037232), ((2, 0, 1, 0, 0, 0), (-691488)), ((3, 6, 0, 0, 0, 0), 49), ((0, 6, 0, 0, 0, 0), (-2744)), ((1, 5, 0, 0, 0, 0), 12348), ((2, 4, 0, 0, 0, 0), (-43218)), ((3, 3, 0, 0, 0, 0), (-5488)), ((0, 3, 0, 0, 0, 0), (-557032)), ((1, 2, 0, 0, 0, 0), 864360), ((2, 1, 0, 0, 0, 0), (-691488)), ((3, 0, 0, 0, 0, 0), 153664), ((0, 0, 0, 0, 0, 0), (-3764768))]
def zl_R3 : zp_P := [((1, 4, 4, 1, 1, 1), 6), ((0, 2, 4, 1, 1, 1), 126), ((1, 1, 4, 1, 1, 1), (-84)), ((0, 3, 3, 1, 1, 1), 420), ((1, 2, 3, 1, 1, 1), (-252)), ((0, 0, 3, 1, 1, 1), 1176), ((0, 4, 2, 1, 1, 1), 126), ((1, 3, 2, 1, 1, 1), (-252)), ((0, 1, 2, 1, 1, 1), 3528), ((1, 0, 2, 1, 1, 1), 3528), ((1, 4, 1, 1, 1, 1), (-84)), ((0, 2, 1, 1, 1, 1), 3528), ((1, 1, 1, 1, 1, 1), 11760), ((0, 3, 0, 1, 1, 1), 1176), ((1, 2, 0, 1, 1, 1), 3528), ((0, 0, 0, 1, 1, 1), 32928), ((2, 6, 4, 0, 0, 1), 3), ((3, 5, 4, 0, 0, 1), 3), ((0, 5, 4, 0, 0, 1), 84), ((2, 3, 4, 0, 0, 1), (-21)), ((3, 2, 4, 0, 0, 1), 21), ((0, 2, 4, 0, 0, 1), 588), ((2, 0, 4, 0, 0, 1), (-294)), ((3, 6, 3, 0, 0, 1), 1), ((0, 6, 3, 0, 0, 1), 28), ((2, 4, 3, 0, 0, 1), 63), ((3, 3, 3, 0, 0, 1), 224), ((0, 3, 3, 0, 0, 1), 6272), ((2, 1, 3, 0, 0, 1), (-3528)), ((3, 0, 3, 0, 0, 1), 196), ((0, 0, 3, 0, 0, 1), 5488), ((2, 5, 2, 0, 0, 1), 189), ((3, 4, 2, 0, 0, 1), 252), ((0, 4, 2, 0, 0, 1), 7056), ((2, 2, 2, 0, 0, 1), (-10584)), ((3, 1, 2, 0, 0, 1), 1764), ((0, 1, 2, 0, 0, 1), 49392), ((2, 6, 1, 0, 0, 1), 21), ((3, 5, 1, 0, 0, 1), 84), ((0, 5, 1, 0, 0, 1), 2352), ((2, 3, 1, 0, 0, 1), (-9408)), ((3, 2, 1, 0, 0, 1), 588), ((0, 2, 1, 0, 0, 1), 16464), ((2, 0, 1, 0, 0, 1), 16464), ((3, 6, 0, 0, 0, 1), 7), ((0, 6, 0, 0, 0, 1), 196), ((2, 4, 0, 0, 0, 1), (-882)), ((3, 3, 0, 0, 0, 1), (-196)), ((0, 3, 0, 0, 0, 1), (-5488)), ((2, 1, 0, 0, 0, 1), 49392), ((3, 0, 0, 0, 0, 1), (-10976)), ((0, 0, 0, 0, 0, 1), (-307328)), ((2, 4, 6, 0, 1, 0), 3), ((3, 3, 6, 0, 1, 0), 1), ((0, 3, 6, 0, 1, 0), 28), ((2, 1, 6, 0, 1, 0), 21), ((3, 0, 6, 0, 1, 0), 7), ((0, 0, 6, 0, 1, 0), 196), ((3, 4, 5, 0, 1, 0), 3), ((0, 4, 5, 0, 1, 0), 84), ((2, 2, 5, 0, 1, 0), 189), ((3, 1, 5, 0, 1, 0), 84), ((0, 1, 5, 0, 1, 0), 2352), ((2, 3, 4, 0, 1, 0), 63), ((3, 2, 4, 0, 1, 0), 252), ((0, 2, 4, 0, 1, 0), 7056), ((2, 0, 4, 0, 1, 0), (-882)), ((2, 4, 3, 0, 1, 0), (-21)), ((3, 3, 3, 0, 1, 0), 224), ((0, 3, 3, 0, 1, 0), 6272), ((2, 1, 3, 0, 1, 0), (-9408)), ((3, 0, 3, 0, 1, 0), (-196)), ((0, 0, 3, 0, 1, 0), (-5488)), ((3, 4, 2, 0, 1, 0), 21), ((0, 4, 2, 0, 1, 0), 588), ((2, 2, 2, 0, 1, 0), (-10584)), ((3, 1, 2, 0, 1, 0), 588), ((0, 1, 2, 0, 1, 0), 16464), ((2, 3, 1, 0, 1, 0), (-3528)), ((3, 2, 1, 0, 1, 0), 1764), ((0, 2, 1, 0, 1, 0), 49392), ((2, 0, 1, 0, 1, 0), 49392), ((2, 4, 0, 0, 1, 0), (-294)), ((3, 3, 0, 0, 1, 0), 196), ((0, 3, 0, 0, 1, 0), 5488), ((2, 1, 0, 0, 1, 0), 16464), ((3, 0, 0, 0, 1, 0), (-10976)), ((0, 0, 0, 0, 1, 0), (-307328)), ((0, 6, 6, 1, 0, 0), 1), ((1, 5, 6, 1, 0, 0), 3), ((0, 3, 6, 1, 0, 0), 35), ((1, 2, 6, 1, 0, 0), 21), ((0, 0, 6, 1, 0, 0), 196), ((1, 6, 5, 1, 0, 0), 3), ((0, 4, 5, 1, 0, 0), 441), ((1, 3, 5, 1, 0, 0), (-84)), ((0, 1, 5, 1, 0, 0), 1764), ((1, 0, 5, 1, 0, 0), 588), ((0, 5, 4, 1, 0, 0), 441), ((1, 4, 4, 1, 0, 0), (-504)), ((0, 2, 4, 1, 0, 0), 9702), ((1, 1, 4, 1, 0, 0), 1764), ((0, 6, 3, 1, 0, 0), 35), ((1, 5, 3, 1, 0, 0), (-84)), ((0, 3, 3, 1, 0, 0), 9604), ((1, 2, 3, 1, 0, 0), 4704), ((0, 0, 3, 1, 0, 0), 19208), ((1, 6, 2, 1, 0, 0), 21), ((0, 4, 2, 1, 0, 0), 9702), ((1, 3, 2, 1, 0, 0), 4704), ((0, 1, 2, 1, 0, 0), (-24696)), ((1, 0, 2, 1, 0, 0), 41160), ((0, 5, 1, 1, 0, 0), 1764), ((1, 4, 1, 1, 0, 0), 1764), ((0, 2, 1, 1, 0, 0), (-24696)), ((1, 1, 1, 1, 0, 0), 49392), ((0, 6, 0, 1, 0, 0), 196), ((1, 5, 0, 1, 0, 0), 588), ((0, 3, 0, 1, 0, 0), 19208), ((1, 2, 0, 1, 0, 0), 41160), ((0, 0, 0, 1, 0, 0), 384160)]
set_option maxRecDepth 100000 in
set_option maxHeartbeats 4000000 in
theorem zl_u1 : (zp_sb (zp_X zp_p1 zp_p2) zl_U1).isEmpty = true := by decide +kernel
set_option maxRecDepth 100000 in
set_option maxHeartbeats 4000000 in
theorem zl_v1 : (zp_sb (zp_X zp_p2 zp_p3) zl_V1).isEmpty = true := by decide +kernel
set_option maxRecDepth 100000 in
set_option maxHeartbeats 4000000 in
theorem zl_l1 : (zp_sb (zp_X (zl_U1, zl_U2, zl_U3) zp_p3) zl_L1).isEmpty = true := by decide +kernel
set_option maxRecDepth 100000 in
set_option maxHeartbeats 4000000 in
theorem zl_r1 : (zp_sb (zp_X zp_p1 (zl_V1, zl_V2, zl_V3)) zl_R1).isEmpty = true := by decide +kernel
set_option maxRecDepth 100000 in
set_option maxHeartbeats 4000000 in
theorem zl_u2 : (zp_sb (zp_Y zp_p1 zp_p2) zl_U2).isEmpty = true := by decide +kernel
set_option maxRecDepth 100000 in
set_option maxHeartbeats 4000000 in
theorem zl_v2 : (zp_sb (zp_Y zp_p2 zp_p3) zl_V2).isEmpty = true := by decide +kernel
set_option maxRecDepth 100000 in
set_option maxHeartbeats 4000000 in
theorem zl_l2 : (zp_sb (zp_Y (zl_U1, zl_U2, zl_U3) zp_p3) zl_L2).isEmpty = true := by decide +kernel
set_option maxRecDepth 100000 in
set_option maxHeartbeats 4000000 in
theorem zl_r2 : (zp_sb (zp_Y zp_p1 (zl_V1, zl_V2, zl_V3)) zl_R2).isEmpty = true := by decide +kernel
set_option maxRecDepth 100000 in
set_option maxHeartbeats 4000000 in
theorem zl_u3 : (zp_sb (zp_Z zp_p1 zp_p2) zl_U3).isEmpty = true := by decide +kernel
set_option maxRecDepth 100000 in
set_option maxHeartbeats 4000000 in
theorem zl_v3 : (zp_sb (zp_Z zp_p2 zp_p3) zl_V3).isEmpty = true := by decide +kernel
set_option maxRecDepth 100000 in
set_option maxHeartbeats 4000000 in
theorem zl_l3 : (zp_sb (zp_Z (zl_U1, zl_U2, zl_U3) zp_p3) zl_L3).isEmpty = true := by decide +kernel
set_option maxRecDepth 100000 in
set_option maxHeartbeats 4000000 in
theorem zl_r3 : (zp_sb (zp_Z zp_p1 (zl_V1, zl_V2, zl_V3)) zl_R3).isEmpty = true := by decide +kernel
set_option maxRecDepth 100000 in
set_option maxHeartbeats 4000000 in
theorem zl_as1 : (zp_sb (zp_mv 7 zl_L1 zl_R3) (zp_mv 7 zl_R1 zl_L3)).isEmpty = true := by decide +kernel
set_option maxRecDepth 100000 in
set_option maxHeartbeats 4000000 in
theorem zl_as2 : (zp_sb (zp_mv 7 zl_L2 zl_R3) (zp_mv 7 zl_R2 zl_L3)).isEmpty = true := by decide +kernel
theorem zl_zero {K : Type} [Lean.Grind.CommRing K] {x1 x2 x3 y1 y2 y3 : K} {p q : zp_P} (h : (zp_sb p q).isEmpty = true) : zp_ev x1 x2 x3 y1 y2 y3 p = zp_ev x1 x2 x3 y1 y2 y3 q := by
  have h9 := zp_zero (x1 := x1) (x2 := x2) (x3 := x3) (y1 := y1) (y2 := y2) (y3 := y3) h
  rw [zp_ev_sb] at h9
  exact ec_sub0 h9
theorem zl_U {K : Type} [Lean.Grind.CommRing K] {x1 x2 x3 y1 y2 y3 : K} (h1 : y1 * y1 = x1 * x1 * x1 + 7) (h2 : y2 * y2 = x2 * x2 * x2 + 7) (h3 : y3 * y3 = x3 * x3 * x3 + 7) : zp_et x1 x2 x3 y1 y2 y3 (zl_U1, zl_U2, zl_U3) = ec_C (x1, y1, 1) (x2, y2, 1) := by
  show (zp_ev x1 x2 x3 y1 y2 y3 zl_U1, zp_ev x1 x2 x3 y1 y2 y3 zl_U2, zp_ev x1 x2 x3 y1 y2 y3 zl_U3) = _
  rw [← zl_zero zl_u1, ← zl_zero zl_u2, ← zl_zero zl_u3, zp_ev_X h1 h2 h3, zp_ev_Y h1 h2 h3, zp_ev_Z h1 h2 h3, zp_et_p1, zp_et_p2]
  rfl
theorem zl_V {K : Type} [Lean.Grind.CommRing K] {x1 x2 x3 y1 y2 y3 : K} (h1 : y1 * y1 = x1 * x1 * x1 + 7) (h2 : y2 * y2 = x2 * x2 * x2 + 7) (h3 : y3 * y3 = x3 * x3 * x3 + 7) : zp_et x1 x2 x3 y1 y2 y3 (zl_V1, zl_V2, zl_V3) = ec_C (x2, y2, 1) (x3, y3, 1) := by
  show (zp_ev x1 x2 x3 y1 y2 y3 zl_V1, zp_ev x1 x2 x3 y1 y2 y3 zl_V2, zp_ev x1 x2 x3 y1 y2 y3 zl_V3) = _
  rw [← zl_zero zl_v1, ← zl_zero zl_v2, ← zl_zero zl_v3, zp_ev_X h1 h2 h3, zp_ev_Y h1 h2 h3, zp_ev_Z h1 h2 h3, zp_et_p2, zp_et_p3]
  rfl
theorem zl_LX {K : Type} [Lean.Grind.CommRing K] {x1 x2 x3 y1 y2 y3 : K} (h1 : y1 * y1 = x1 * x1 * x1 + 7) (h2 : y2 * y2 = x2 * x2 * x2 + 7) (h3 : y3 * y3 = x3 * x3 * x3 + 7) : zp_ev x1 x2 x3 y1 y2 y3 zl_L1 = ec_X (ec_C (x1, y1, 1) (x2, y2, 1)) (x3, y3, 1) := by
  rw [← zl_zero zl_l1, zp_ev_X h1 h2 h3, zl_U h1 h2 h3, zp_et_p3]
theorem zl_RX {K : Type} [Lean.Grind.CommRing K] {x1 x2 x3 y1 y2 y3 : K} (h1 : y1 * y1 = x1 * x1 * x1 + 7) (h2 : y2 * y2 = x2 * x2 * x2 + 7) (h3 : y3 * y3 = x3 * x3 * x3 + 7) : zp_ev x1 x2 x3 y1 y2 y3 zl_R1 = ec_X (x1, y1, 1) (ec_C (x2, y2, 1) (x3, y3, 1)) := by
  rw [← zl_zero zl_r1, zp_ev_X h1 h2 h3, zl_V h1 h2 h3, zp_et_p1]
theorem zl_LY {K : Type} [Lean.Grind.CommRing K] {x1 x2 x3 y1 y2 y3 : K} (h1 : y1 * y1 = x1 * x1 * x1 + 7) (h2 : y2 * y2 = x2 * x2 * x2 + 7) (h3 : y3 * y3 = x3 * x3 * x3 + 7) : zp_ev x1 x2 x3 y1 y2 y3 zl_L2 = ec_Y (ec_C (x1, y1, 1) (x2, y2, 1)) (x3, y3, 1) := by
  rw [← zl_zero zl_l2, zp_ev_Y h1 h2 h3, zl_U h1 h2 h3, zp_et_p3]
theorem zl_RY {K : Type} [Lean.Grind.CommRing K] {x1 x2 x3 y1 y2 y3 : K} (h1 : y1 * y1 = x1 * x1 * x1 + 7) (h2 : y2 * y2 = x2 * x2 * x2 + 7) (h3 : y3 * y3 = x3 * x3 * x3 + 7) : zp_ev x1 x2 x3 y1 y2 y3 zl_R2 = ec_Y (x1, y1, 1) (ec_C (x2, y2, 1) (x3, y3, 1)) := by
  rw [← zl_zero zl_r2, zp_ev_Y h1 h2 h3, zl_V h1 h2 h3, zp_et_p1]
theorem zl_LZ {K : Type} [Lean.Grind.CommRing K] {x1 x2 x3 y1 y2 y3 : K} (h1 : y1 * y1 = x1 * x1 * x1 + 7) (h2 : y2 * y2 = x2 * x2 * x2 + 7) (h3 : y3 * y3 = x3 * x3 * x3 + 7) : zp_ev x1 x2 x3 y1 y2 y3 zl_L3 = ec_Z (ec_C (x1, y1, 1) (x2, y2, 1)) (x3, y3, 1) := by
  rw [← zl_zero zl_l3, zp_ev_Z h1 h2 h3, zl_U h1 h2 h3, zp_et_p3]
theorem zl_RZ {K : Type} [Lean.Grind.CommRing K] {x1 x2 x3 y1 y2 y3 : K} (h1 : y1 * y1 = x1 * x1 * x1 + 7) (h2 : y2 * y2 = x2 * x2 * x2 + 7) (h3 : y3 * y3 = x3 * x3 * x3 + 7) : zp_ev x1 x2 x3 y1 y2 y3 zl_R3 = ec_Z (x1, y1, 1) (ec_C (x2, y2, 1) (x3, y3, 1)) := by
  rw [← zl_zero zl_r3, zp_ev_Z h1 h2 h3, zl_V h1 h2 h3, zp_et_p1]
theorem ec_asX {K : Type} [Lean.Grind.CommRing K] {x1 x2 x3 y1 y2 y3 : K} (h1 : y1 * y1 = x1 * x1 * x1 + 7) (h2 : y2 * y2 = x2 * x2 * x2 + 7) (h3 : y3 * y3 = x3 * x3 * x3 + 7) :
    ec_X (ec_C (x1, y1, 1) (x2, y2, 1)) (x3, y3, 1) * ec_Z (x1, y1, 1) (ec_C (x2, y2, 1) (x3, y3, 1)) = ec_X (x1, y1, 1) (ec_C (x2, y2, 1) (x3, y3, 1)) * ec_Z (ec_C (x1, y1, 1) (x2, y2, 1)) (x3, y3, 1) := by
  have h := zl_zero (x1 := x1) (x2 := x2) (x3 := x3) (y1 := y1) (y2 := y2) (y3 := y3) zl_as1
  rw [zp_ev_mv h1 h2 h3, zp_ev_mv h1 h2 h3, zl_LX h1 h2 h3, zl_RZ h1 h2 h3, zl_RX h1 h2 h3, zl_LZ h1 h2 h3] at h
  exact h
theorem ec_asY {K : Type} [Lean.Grind.CommRing K] {x1 x2 x3 y1 y2 y3 : K} (h1 : y1 * y1 = x1 * x1 * x1 + 7) (h2 : y2 * y2 = x2 * x2 * x2 + 7) (h3 : y3 * y3 = x3 * x3 * x3 + 7) :
    ec_Y (ec_C (x1, y1, 1) (x2, y2, 1)) (x3, y3, 1) * ec_Z (x1, y1, 1) (ec_C (x2, y2, 1) (x3, y3, 1)) = ec_Y (x1, y1, 1) (ec_C (x2, y2, 1) (x3, y3, 1)) * ec_Z (ec_C (x1, y1, 1) (x2, y2, 1)) (x3, y3, 1) := by
  have h := zl_zero (x1 := x1) (x2 := x2) (x3 := x3) (y1 := y1) (y2 := y2) (y3 := y3) zl_as2
  rw [zp_ev_mv h1 h2 h3, zp_ev_mv h1 h2 h3, zl_LY h1 h2 h3, zl_RZ h1 h2 h3, zl_RY h1 h2 h3, zl_LZ h1 h2 h3] at h
  exact h
end
section
/-! The addition itself, and its laws. -/
def ec_ln {K : Type} [Lean.Grind.CommRing K] (l x1 y1 x2 : K) : K × K := (l * l - x1 - x2, l * (x1 - (l * l - x1 - x2)) - y1)
def ec_ad {K : Type} [Lean.Grind.CommRing K] [DecidableEq K] (iv : K → K) : Option (K × K) → Option (K × K) → Option (K × K)
  | none, Q => Q
  | some p, none => some p
  | some p, some q => if p.1 = q.1 then (if p.2 = q.2 then some (ec_ln (3 * (p.1 * p.1) * iv (p.2 + p.2)) p.1 p.2 p.1) else none) else some (ec_ln ((q.2 - p.2) * iv (q.1 - p.1)) p.1 p.2 q.1)
theorem ec_ad_some {K : Type} [Lean.Grind.CommRing K] [DecidableEq K] (iv : K → K) (x1 y1 x2 y2 : K) : ec_ad iv (some (x1, y1)) (some (x2, y2)) = if x1 = x2 then (if y1 = y2 then some (ec_ln (3 * (x1 * x1) * iv (y1 + y1)) x1 y1 x1) else none) else some (ec_ln ((y2 - y1) * iv (x2 - x1)) x1 y1 x2) := rfl
def ec_on {K : Type} [Lean.Grind.CommRing K] (P : Option (K × K)) : Prop := ∀ p, P = some p → p.2 * p.2 = p.1 * p.1 * p.1 + 7
def ec_R {K : Type} [Lean.Grind.CommRing K] (P : Option (K × K)) (u : ec_T K) : Prop := match P with
  | none => u.1 = 0 ∧ u.2.1 ≠ 0 ∧ u.2.2 = 0
  | some p => u.2.2 ≠ 0 ∧ u.1 = p.1 * u.2.2 ∧ u.2.1 = p.2 * u.2.2
/-- what is asked of the field -/
def ec_F (K : Type) [Lean.Grind.CommRing K] (iv : K → K) : Prop := (∀ a b : K, a * b = 0 → a = 0 ∨ b = 0) ∧ (∀ a : K, a ≠ 0 → iv a * a = 1) ∧ (∀ x : K, x * x * x + 7 ≠ 0) ∧ (2 : K) ≠ 0 ∧ (1 : K) ≠ 0
theorem ec_y0 {K : Type} [Lean.Grind.CommRing K] {iv : K → K} (hF : ec_F K iv) {x y : K} (h : y * y = x * x * x + 7) : y ≠ 0 := by
  intro h0
  refine hF.2.2.1 x ?_
  rw [← h, h0]
  grind
theorem ec_yy {K : Type} [Lean.Grind.CommRing K] {iv : K → K} (hF : ec_F K iv) {x y : K} (h : y * y = x * x * x + 7) : y + y ≠ 0 := by
  intro h0
  have h1 : 2 * y = 0 := by grind
  rcases hF.1 _ _ h1 with h2 | h2
  · exact hF.2.2.2.1 h2
  · exact ec_y0 hF h h2
theorem ec_line {K : Type} [Lean.Grind.CommRing K] {iv : K → K} (hF : ec_F K iv) {d n l x1 y1 x2 : K} (hd : d ≠ 0) (hl : l = n * iv d) :
    d * d * (ec_ln l x1 y1 x2).1 = ec_nx d n x1 x2 ∧ d * d * d * (ec_ln l x1 y1 x2).2 = ec_ny d n x1 x2 y1 := by
  have h1 : l * d = n := by
    have h2 := hF.2.1 d hd
    rw [hl]
    grind
  have e1 : d * d * (ec_ln l x1 y1 x2).1 = ec_nx d n x1 x2 := by
    have h3 : d * d * (l * l - x1 - x2) = (l * d) * (l * d) - (x1 + x2) * (d * d) := by grind
    show d * d * (l * l - x1 - x2) = n * n - (x1 + x2) * (d * d)
    rw [h3, h1]
  refine ⟨e1, ?_⟩
  have h4 : d * d * d * (l * (x1 - (l * l - x1 - x2)) - y1) = (l * d) * (x1 * (d * d) - d * d * (l * l - x1 - x2)) - y1 * (d * d * d) := by grind
  show d * d * d * (l * (x1 - (l * l - x1 - x2)) - y1) = n * (x1 * (d * d) - ec_nx d n x1 x2) - y1 * (d * d * d)
  rw [h4, h1, ← e1]
  rfl
/-- from numerators to the curve -/
theorem ec_close {K : Type} [Lean.Grind.CommRing K] {iv : K → K} (hF : ec_F K iv) {d a b x y : K} (hd : d ≠ 0) (ex : d * d * x = a) (ey : d * d * d * y = b) (h : b * b = a * a * a + 7 * (d * d * d * (d * d * d))) : y * y = x * x * x + 7 := by
  have h3 : d * d * d * (d * d * d) ≠ 0 := ec_mulne hF.1 (ec_mulne hF.1 (ec_mulne hF.1 hd hd) hd) (ec_mulne hF.1 (ec_mulne hF.1 hd hd) hd)
  refine ec_canc hF.1 h3 ?_
  have e1 : d * d * d * (d * d * d) * (y * y) = (d * d * d * y) * (d * d * d * y) := by grind
  have e2 : d * d * d * (d * d * d) * (x * x * x + 7) = (d * d * x) * (d * d * x) * (d * d * x) + 7 * (d * d * d * (d * d * d)) := by grind
  rw [e1, e2, ex, ey, h]
theorem ec_neq {K : Type} [Lean.Grind.CommRing K] {a b : K} (h : a ≠ b) : b - a ≠ 0 := fun h0 => h (by grind)
theorem ec_chord {K : Type} [Lean.Grind.CommRing K] {iv : K → K} (hF : ec_F K iv) {x1 y1 x2 y2 : K} (h1 : y1 * y1 = x1 * x1 * x1 + 7) (h2 : y2 * y2 = x2 * x2 * x2 + 7) (hx : x1 ≠ x2) :
    (ec_ln ((y2 - y1) * iv (x2 - x1)) x1 y1 x2).2 * (ec_ln ((y2 - y1) * iv (x2 - x1)) x1 y1 x2).2 = (ec_ln ((y2 - y1) * iv (x2 - x1)) x1 y1 x2).1 * (ec_ln ((y2 - y1) * iv (x2 - x1)) x1 y1 x2).1 * (ec_ln ((y2 - y1) * iv (x2 - x1)) x1 y1 x2).1 + 7 := by
  obtain ⟨ex, ey⟩ := ec_line hF (d := x2 - x1) (n := y2 - y1) (x1 := x1) (y1 := y1) (x2 := x2) (ec_neq hx) rfl
  exact ec_close hF (ec_neq hx) ex ey (ec_i4 h1 h2)
theorem ec_tang {K : Type} [Lean.Grind.CommRing K] {iv : K → K} (hF : ec_F K iv) {x1 y1 : K} (h1 : y1 * y1 = x1 * x1 * x1 + 7) :
    (ec_ln (3 * (x1 * x1) * iv (y1 + y1)) x1 y1 x1).2 * (ec_ln (3 * (x1 * x1) * iv (y1 + y1)) x1 y1 x1).2 = (ec_ln (3 * (x1 * x1) * iv (y1 + y1)) x1 y1 x1).1 * (ec_ln (3 * (x1 * x1) * iv (y1 + y1)) x1 y1 x1).1 * (ec_ln (3 * (x1 * x1) * iv (y1 + y1)) x1 y1 x1).1 + 7 := by
  obtain ⟨ex, ey⟩ := ec_line hF (d := y1 + y1) (n := 3 * (x1 * x1)) (x1 := x1) (y1 := y1) (x2 := x1) (ec_yy hF h1) rfl
  exact ec_close hF (ec_yy hF h1) ex ey (ec_i8 h1)
theorem ec_on_ad {K : Type} [Lean.Grind.CommRing K] [DecidableEq K] {iv : K → K} (hF : ec_F K iv) {P Q : Option (K × K)} (hP : ec_on P) (hQ : ec_on Q) : ec_on (ec_ad iv P Q) := by
  cases P with
  | none => exact hQ
  | some p =>
    cases Q with
    | none => exact hP
    | some q =>
      obtain ⟨x1, y1⟩ := p
      obtain ⟨x2, y2⟩ := q
      have h1 := hP (x1, y1) rfl
      have h2 := hQ (x2, y2) rfl
      rw [ec_ad_some]
      by_cases hx : x1 = x2
      · rw [if_pos hx]
        by_cases hy : y1 = y2
        · rw [if_pos hy]
          intro r hr
          cases hr
          exact ec_tang hF h1
        · rw [if_neg hy]
          intro r hr
          cases hr
      · rw [if_neg hx]
        intro r hr
        cases hr
        exact ec_chord hF h1 h2 hx
theorem ec_Zne {K : Type} [Lean.Grind.CommRing K] {iv : K → K} (hF : ec_F K iv) {x1 y1 x2 y2 : K} (h1 : y1 * y1 = x1 * x1 * x1 + 7) (h2 : y2 * y2 = x2 * x2 * x2 + 7) (hx : x1 ≠ x2) : ec_Z (x1, y1, 1) (x2, y2, 1) ≠ 0 := by
  rw [← ec_i3 h1 h2]
  have h3 : (-y2) * (-y2) = x2 * x2 * x2 + 7 := by rw [← h2]; grind
  obtain ⟨-, ey⟩ := ec_line hF (d := x2 - x1) (n := -y2 - y1) (x1 := x1) (y1 := y1) (x2 := x2) (ec_neq hx) rfl
  rw [← ey]
  exact ec_mulne hF.1 (ec_mulne hF.1 (ec_mulne hF.1 (ec_neq hx) (ec_neq hx)) (ec_neq hx)) (ec_y0 hF (ec_chord hF h1 h3 hx))
theorem ec_rep1 {K : Type} [Lean.Grind.CommRing K] [DecidableEq K] {iv : K → K} (hF : ec_F K iv) {x1 y1 x2 y2 : K} (h1 : y1 * y1 = x1 * x1 * x1 + 7) (h2 : y2 * y2 = x2 * x2 * x2 + 7) : ec_R (ec_ad iv (some (x1, y1)) (some (x2, y2))) (ec_C (x1, y1, 1) (x2, y2, 1)) := by
  rw [ec_ad_some]
  by_cases hx : x1 = x2
  · rw [if_pos hx]
    subst hx
    by_cases hy : y1 = y2
    · rw [if_pos hy]
      subst hy
      have hd := ec_yy hF h1
      obtain ⟨ex, ey⟩ := ec_line hF (d := y1 + y1) (n := 3 * (x1 * x1)) (x1 := x1) (y1 := y1) (x2 := x1) hd rfl
      refine ⟨?_, ?_, ?_⟩
      · show ec_Z (x1, y1, 1) (x1, y1, 1) ≠ 0
        rw [ec_i7 h1]
        exact ec_mulne hF.1 (ec_mulne hF.1 hd hd) hd
      · refine ec_canc hF.1 (ec_mulne hF.1 hd hd) ?_
        show (y1 + y1) * (y1 + y1) * ec_X (x1, y1, 1) (x1, y1, 1) = (y1 + y1) * (y1 + y1) * ((ec_ln (3 * (x1 * x1) * iv (y1 + y1)) x1 y1 x1).1 * ec_Z (x1, y1, 1) (x1, y1, 1))
        rw [ec_i5 h1, ← ex]
        grind
      · refine ec_canc hF.1 (ec_mulne hF.1 (ec_mulne hF.1 hd hd) hd) ?_
        show (y1 + y1) * (y1 + y1) * (y1 + y1) * ec_Y (x1, y1, 1) (x1, y1, 1) = (y1 + y1) * (y1 + y1) * (y1 + y1) * ((ec_ln (3 * (x1 * x1) * iv (y1 + y1)) x1 y1 x1).2 * ec_Z (x1, y1, 1) (x1, y1, 1))
        rw [ec_i6 h1, ← ey]
        grind
    · rw [if_neg hy]
      have h3 : (y1 - y2) * (y1 + y2) = 0 := by grind
      have h4 : y2 = -y1 := by
        rcases hF.1 _ _ h3 with h5 | h5
        · exact absurd (ec_sub0 h5) hy
        · grind
      subst h4
      refine ⟨?_, ?_, ?_⟩
      · show ec_X (x1, y1, 1) (x1, -y1, 1) = 0
        simp only [ec_X]
        grind
      · show ec_Y (x1, y1, 1) (x1, -y1, 1) ≠ 0
        rw [ec_i9 h1]
        have hd := ec_yy hF h1
        obtain ⟨-, ey⟩ := ec_line hF (d := y1 + y1) (n := 3 * (x1 * x1)) (x1 := x1) (y1 := y1) (x2 := x1) hd rfl
        rw [← ey]
        exact ec_mulne hF.1 (ec_mulne hF.1 (ec_mulne hF.1 hd hd) hd) (ec_y0 hF (ec_tang hF h1))
      · show ec_Z (x1, y1, 1) (x1, -y1, 1) = 0
        simp only [ec_Z]
        grind
  · rw [if_neg hx]
    have hd := ec_neq hx
    obtain ⟨ex, ey⟩ := ec_line hF (d := x2 - x1) (n := y2 - y1) (x1 := x1) (y1 := y1) (x2 := x2) hd rfl
    refine ⟨ec_Zne hF h1 h2 hx, ?_, ?_⟩
    · refine ec_canc hF.1 (ec_mulne hF.1 hd hd) ?_
      show (x2 - x1) * (x2 - x1) * ec_X (x1, y1, 1) (x2, y2, 1) = (x2 - x1) * (x2 - x1) * ((ec_ln ((y2 - y1) * iv (x2 - x1)) x1 y1 x2).1 * ec_Z (x1, y1, 1) (x2, y2, 1))
      rw [ec_i1 h1 h2, ← ex]
      grind
    · refine ec_canc hF.1 (ec_mulne hF.1 (ec_mulne hF.1 hd hd) hd) ?_
      show (x2 - x1) * (x2 - x1) * (x2 - x1) * ec_Y (x1, y1, 1) (x2, y2, 1) = (x2 - x1) * (x2 - x1) * (x2 - x1) * ((ec_ln ((y2 - y1) * iv (x2 - x1)) x1 y1 x2).2 * ec_Z (x1, y1, 1) (x2, y2, 1))
      rw [ec_i2 h1 h2, ← ey]
      grind
def ec_sm {K : Type} [Lean.Grind.CommRing K] (a : K) (u : ec_T K) : ec_T K := (a * u.1, a * u.2.1, a * u.2.2)
theorem ec_R_sm {K : Type} [Lean.Grind.CommRing K] {iv : K → K} (hF : ec_F K iv) {a : K} (ha : a ≠ 0) {P : Option (K × K)} {u : ec_T K} (h : ec_R P u) : ec_R P (ec_sm a u) := by
  cases P with
  | none =>
    obtain ⟨h1, h2, h3⟩ := h
    refine ⟨?_, ec_mulne hF.1 ha h2, ?_⟩
    · show a * u.1 = 0
      rw [h1]; grind
    · show a * u.2.2 = 0
      rw [h3]; grind
  | some p =>
    obtain ⟨h1, h2, h3⟩ := h
    refine ⟨ec_mulne hF.1 ha h1, ?_, ?_⟩
    · show a * u.1 = p.1 * (a * u.2.2)
      rw [h2]; grind
    · show a * u.2.1 = p.2 * (a * u.2.2)
      rw [h3]; grind
theorem ec_sm1 {K : Type} [Lean.Grind.CommRing K] {x y z : K} {u : ec_T K} (hx : u.1 = x * u.2.2) (hy : u.2.1 = y * u.2.2) : u = ec_sm u.2.2 (x, y, 1) := by
  obtain ⟨a, b, c⟩ := u
  simp only [ec_sm] at *
  rw [hx, hy]
  refine Prod.ext ?_ (Prod.ext ?_ ?_)
  · show x * c = c * x
    grind
  · show y * c = c * y
    grind
  · show c = c * 1
    grind
theorem ec_C_sm {K : Type} [Lean.Grind.CommRing K] (a b x1 y1 x2 y2 : K) : ec_C (ec_sm a (x1, y1, 1)) (ec_sm b (x2, y2, 1)) = ec_sm (a * b * (a * b)) (ec_C (x1, y1, 1) (x2, y2, 1)) := by
  refine Prod.ext ?_ (Prod.ext ?_ ?_)
  · show ec_X (ec_sm a (x1, y1, 1)) (ec_sm b (x2, y2, 1)) = a * b * (a * b) * ec_X (x1, y1, 1) (x2, y2, 1)
    simp only [ec_X, ec_sm]
    grind
  · show ec_Y (ec_sm a (x1, y1, 1)) (ec_sm b (x2, y2, 1)) = a * b * (a * b) * ec_Y (x1, y1, 1) (x2, y2, 1)
    simp only [ec_Y, ec_sm]
    grind
  · show ec_Z (ec_sm a (x1, y1, 1)) (ec_sm b (x2, y2, 1)) = a * b * (a * b) * ec_Z (x1, y1, 1) (x2, y2, 1)
    simp only [ec_Z, ec_sm]
    grind
theorem ec_C_comm {K : Type} [Lean.Grind.CommRing K] (u v : ec_T K) : ec_C u v = ec_C v u := by
  refine Prod.ext ?_ (Prod.ext ?_ ?_)
  · show ec_X u v = ec_X v u
    simp only [ec_X]
    grind
  · show ec_Y u v = ec_Y v u
    simp only [ec_Y]
    grind
  · show ec_Z u v = ec_Z v u
    simp only [ec_Z]
    grind
theorem ec_C_0 {K : Type} [Lean.Grind.CommRing K] (b : K) (v : ec_T K) : ec_C (0, b, 0) v = ec_sm (b * b * v.2.1) v := by
  refine Prod.ext ?_ (Prod.ext ?_ ?_)
  · show ec_X (0, b, 0) v = b * b * v.2.1 * v.1
    simp only [ec_X]
    grind
  · show ec_Y (0, b, 0) v = b * b * v.2.1 * v.2.1
    simp only [ec_Y]
    grind
  · show ec_Z (0, b, 0) v = b * b * v.2.1 * v.2.2
    simp only [ec_Z]
    grind
theorem ec_R_Y {K : Type} [Lean.Grind.CommRing K] {iv : K → K} (hF : ec_F K iv) {P : Option (K × K)} {u : ec_T K} (hP : ec_on P) (h : ec_R P u) : u.2.1 ≠ 0 := by
  cases P with
  | none => exact h.2.1
  | some p =>
    rw [h.2.2]
    exact ec_mulne hF.1 (ec_y0 hF (hP p rfl)) h.1
theorem ec_R_0 {K : Type} [Lean.Grind.CommRing K] [DecidableEq K] {iv : K → K} (hF : ec_F K iv) {Q : Option (K × K)} {u v : ec_T K} (hu : ec_R none u) (hv : ec_R Q v) (hQ : ec_on Q) : ec_R Q (ec_C u v) := by
  obtain ⟨h1, h2, h3⟩ := hu
  have h4 : u = (0, u.2.1, 0) := Prod.ext h1 (Prod.ext rfl h3)
  rw [h4, ec_C_0]
  exact ec_R_sm hF (ec_mulne hF.1 (ec_mulne hF.1 h2 h2) (ec_R_Y hF hQ hv)) hv
theorem ec_rep {K : Type} [Lean.Grind.CommRing K] [DecidableEq K] {iv : K → K} (hF : ec_F K iv) {P Q : Option (K × K)} {u v : ec_T K} (hP : ec_on P) (hQ : ec_on Q) (hu : ec_R P u) (hv : ec_R Q v) : ec_R (ec_ad iv P Q) (ec_C u v) := by
  cases P with
  | none => exact ec_R_0 hF hu hv hQ
  | some p =>
    cases Q with
    | none =>
      rw [ec_C_comm]
      exact ec_R_0 hF hv hu hP
    | some q =>
      obtain ⟨x1, y1⟩ := p
      obtain ⟨x2, y2⟩ := q
      have h1 := ec_rep1 hF (hP _ rfl) (hQ _ rfl)
      rw [ec_sm1 (z := x1) hu.2.1 hu.2.2, ec_sm1 (z := x1) hv.2.1 hv.2.2, ec_C_sm]
      have h2 := ec_mulne hF.1 hu.1 hv.1
      exact ec_R_sm hF (ec_mulne hF.1 h2 h2) h1
theorem ec_uniq {K : Type} [Lean.Grind.CommRing K] {iv : K → K} (hF : ec_F K iv) {P Q : Option (K × K)} {u v : ec_T K} (hu : ec_R P u) (hv : ec_R Q v) (hX : u.1 * v.2.2 = v.1 * u.2.2) (hY : u.2.1 * v.2.2 = v.2.1 * u.2.2) : P = Q := by
  cases P with
  | none =>
    cases Q with
    | none => rfl
    | some q =>
      obtain ⟨h1, h2, h3⟩ := hu
      rw [h3] at hY
      have h4 : u.2.1 * v.2.2 = 0 := by rw [hY]; grind
      exact absurd h4 (ec_mulne hF.1 h2 hv.1)
  | some p =>
    cases Q with
    | none =>
      obtain ⟨h1, h2, h3⟩ := hv
      rw [h3] at hY
      have h4 : v.2.1 * u.2.2 = 0 := by rw [← hY]; grind
      exact absurd h4 (ec_mulne hF.1 h2 hu.1)
    | some q =>
      have hz := ec_mulne hF.1 hu.1 hv.1
      have e1 : p.1 = q.1 := by
        refine ec_canc hF.1 hz ?_
        rw [hu.2.1, hv.2.1] at hX
        grind
      have e2 : p.2 = q.2 := by
        refine ec_canc hF.1 hz ?_
        rw [hu.2.2, hv.2.2] at hY
        grind
      rw [Prod.ext e1 e2]
theorem ec_R_aff {K : Type} [Lean.Grind.CommRing K] {iv : K → K} (hF : ec_F K iv) (x y : K) : ec_R (some (x, y)) (x, y, 1) := by
  refine ⟨hF.2.2.2.2, ?_, ?_⟩
  · show x = x * 1
    grind
  · show y = y * 1
    grind
theorem ec_comm {K : Type} [Lean.Grind.CommRing K] [DecidableEq K] {iv : K → K} (hF : ec_F K iv) {P Q : Option (K × K)} (hP : ec_on P) (hQ : ec_on Q) : ec_ad iv P Q = ec_ad iv Q P := by
  cases P with
  | none => cases Q with
    | none => rfl
    | some q => rfl
  | some p => cases Q with
    | none => rfl
    | some q =>
      obtain ⟨x1, y1⟩ := p
      obtain ⟨x2, y2⟩ := q
      have h1 := ec_rep1 hF (hP _ rfl) (hQ _ rfl)
      have h2 := ec_rep1 hF (hQ _ rfl) (hP _ rfl)
      rw [ec_C_comm] at h2
      exact ec_uniq hF h1 h2 rfl rfl
theorem ec_assoc {K : Type} [Lean.Grind.CommRing K] [DecidableEq K] {iv : K → K} (hF : ec_F K iv) {P Q R : Option (K × K)} (hP : ec_on P) (hQ : ec_on Q) (hR : ec_on R) : ec_ad iv (ec_ad iv P Q) R = ec_ad iv P (ec_ad iv Q R) := by
  cases P with
  | none => rfl
  | some p =>
    cases Q with
    | none => rfl
    | some q =>
      cases R with
      | none =>
        have h9 : ∀ X : Option (K × K), ec_ad iv X none = X := fun X => by cases X <;> rfl
        rw [h9, h9]
      | some r =>
        obtain ⟨x1, y1⟩ := p
        obtain ⟨x2, y2⟩ := q
        obtain ⟨x3, y3⟩ := r
        have a1 := hP _ rfl
        have a2 := hQ _ rfl
        have a3 := hR _ rfl
        have h12 := ec_rep1 hF a1 a2
        have h23 := ec_rep1 hF a2 a3
        have hL := ec_rep hF (ec_on_ad hF hP hQ) hR h12 (ec_R_aff hF x3 y3)
        have hR9 := ec_rep hF hP (ec_on_ad hF hQ hR) (ec_R_aff hF x1 y1) h23
        exact ec_uniq hF hL hR9 (ec_asX a1 a2 a3) (ec_asY a1 a2 a3)
-- multiples
def ec_n {K : Type} [Lean.Grind.CommRing K] [DecidableEq K] (iv : K → K) (P : Option (K × K)) : Nat → Option (K × K)
  | 0 => none
  | k + 1 => ec_ad iv (ec_n iv P k) P
theorem ec_on_n {K : Type} [Lean.Grind.CommRing K] [DecidableEq K] {iv : K → K} (hF : ec_F K iv) {P : Option (K × K)} (hP : ec_on P) (k : Nat) : ec_on (ec_n iv P k) := by
  induction k with
  | zero => intro p h; cases h
  | succ k ih => exact ec_on_ad hF ih hP
theorem ec_n_add {K : Type} [Lean.Grind.CommRing K] [DecidableEq K] {iv : K → K} (hF : ec_F K iv) {P : Option (K × K)} (hP : ec_on P) (a b : Nat) : ec_ad iv (ec_n iv P a) (ec_n iv P b) = ec_n iv P (a + b) := by
  induction b with
  | zero =>
    show ec_ad iv (ec_n iv P a) none = ec_n iv P a
    cases ec_n iv P a <;> rfl
  | succ b ih =>
    show ec_ad iv (ec_n iv P a) (ec_ad iv (ec_n iv P b) P) = ec_ad iv (ec_n iv P (a + b)) P
    rw [← ih, ec_assoc hF (ec_on_n hF hP a) (ec_on_n hF hP b) hP]
theorem ec_n_1 {K : Type} [Lean.Grind.CommRing K] [DecidableEq K] {iv : K → K} (P : Option (K × K)) : ec_n iv P 1 = P := rfl
theorem ec_n_mul {K : Type} [Lean.Grind.CommRing K] [DecidableEq K] {iv : K → K} (hF : ec_F K iv) {P : Option (K × K)} (hP : ec_on P) (a b : Nat) : ec_n iv (ec_n iv P a) b = ec_n iv P (a * b) := by
  induction b with
  | zero => rfl
  | succ b ih =>
    show ec_ad iv (ec_n iv (ec_n iv P a) b) (ec_n iv P a) = ec_n iv P (a * (b + 1))
    rw [ih, ec_n_add hF hP]
    rfl
theorem ec_n_0 {K : Type} [Lean.Grind.CommRing K] [DecidableEq K] {iv : K → K} (k : Nat) : ec_n iv (none : Option (K × K)) k = none := by
  induction k with
  | zero => rfl
  | succ k ih =>
    show ec_ad iv (ec_n iv none k) none = none
    rw [ih]
    rfl
theorem ec_n_mod {K : Type} [Lean.Grind.CommRing K] [DecidableEq K] {iv : K → K} (hF : ec_F K iv) {P : Option (K × K)} (hP : ec_on P) {n : Nat} (hn : ec_n iv P n = none) (k : Nat) : ec_n iv P (k % n) = ec_n iv P k := by
  have h1 : ec_n iv P (n * (k / n) + k % n) = ec_n iv P (k % n) := by
    rw [← ec_n_add hF hP, ← ec_n_mul hF hP, hn, ec_n_0]
    rfl
  rw [← h1, Nat.div_add_mod]
end
section
/-! Numbers: primes by trial, Fermat's small theorem. -/
def nt_go (p : Nat) : Nat → Bool
  | 0 => true
  | n + 1 => cond (Nat.beq (p % (n + 2)) 0) false (nt_go p n)
theorem nt_go_spec {p : Nat} : ∀ {f : Nat}, nt_go p f = true → ∀ e, 2 ≤ e → e ≤ f + 1 → p % e ≠ 0
  | 0, _, e, h1, h2 => by omega
  | f + 1, h, e, h1, h2 => by
    simp only [nt_go] at h
    cases hb : Nat.beq (p % (f + 2)) 0 with
    | true => rw [hb] at h; cases h
    | false =>
      rw [hb] at h
      by_cases he : e = f + 2
      · subst he
        intro h0
        rw [h0] at hb
        cases hb
      · exact nt_go_spec (f := f) h e h1 (by omega)
def nt_P (p : Nat) : Prop := 2 ≤ p ∧ ∀ d, d ∣ p → d = 1 ∨ d = p
theorem nt_prime {p f : Nat} (h2 : 2 ≤ p) (h : nt_go p f = true) (hf : p < (f + 2) * (f + 2)) : nt_P p := by
  refine ⟨h2, fun d hd => ?_⟩
  obtain ⟨e, he⟩ := hd
  by_cases h1 : d = 1
  · exact Or.inl h1
  · by_cases h3 : e = 1
    · right; rw [he, h3, Nat.mul_one]
    · exfalso
      have d0 : d ≠ 0 := fun z => by rw [z, Nat.zero_mul] at he; omega
      have e0 : e ≠ 0 := fun z => by rw [z, Nat.mul_zero] at he; omega
      have m1 : p % d = 0 := by rw [he]; exact Nat.mul_mod_right d e
      have m2 : p % e = 0 := by rw [he]; exact Nat.mul_mod_left d e
      by_cases c1 : d ≤ f + 1
      · exact nt_go_spec h d (by omega) c1 m1
      · by_cases c2 : e ≤ f + 1
        · exact nt_go_spec h e (by omega) c2 m2
        · have : (f + 2) * (f + 2) ≤ d * e := Nat.mul_le_mul (by omega) (by omega)
          omega
theorem nt_euclid {p a b : Nat} (hp : nt_P p) (h : p ∣ a * b) : p ∣ a ∨ p ∣ b := by
  rcases hp.2 (Nat.gcd p a) (Nat.gcd_dvd_left p a) with h1 | h1
  · exact Or.inr (Nat.Coprime.dvd_of_dvd_mul_left h1 h)
  · left; rw [← h1]; exact Nat.gcd_dvd_right p a
def nt_ch : Nat → Nat → Nat
  | _, 0 => 1
  | 0, _ + 1 => 0
  | n + 1, k + 1 => nt_ch n k + nt_ch n (k + 1)
theorem nt_ch_z (n : Nat) : nt_ch n 0 = 1 := by cases n <;> rfl
theorem nt_ch_0 (k : Nat) : nt_ch 0 (k + 1) = 0 := rfl
theorem nt_ch_s (n k : Nat) : nt_ch (n + 1) (k + 1) = nt_ch n k + nt_ch n (k + 1) := rfl
theorem nt_ch_big : ∀ (n k : Nat), n < k → nt_ch n k = 0
  | n, 0, h => by omega
  | 0, k + 1, _ => rfl
  | n + 1, k + 1, h => by rw [nt_ch_s, nt_ch_big n k (by omega), nt_ch_big n (k + 1) (by omega)]
theorem nt_ch_self : ∀ n : Nat, nt_ch n n = 1
  | 0 => rfl
  | n + 1 => by rw [nt_ch_s, nt_ch_self n, nt_ch_big n (n + 1) (by omega)]
theorem nt_ch_mul : ∀ (n k : Nat), (k + 1) * nt_ch (n + 1) (k + 1) = (n + 1) * nt_ch n k
  | 0, 0 => rfl
  | 0, k + 1 => by rw [nt_ch_s, nt_ch_0, nt_ch_0]; simp
  | n + 1, 0 => by
    have h := nt_ch_mul n 0
    rw [nt_ch_z] at h
    rw [nt_ch_s, nt_ch_z]
    omega
  | n + 1, k + 1 => by
    have h1 := nt_ch_mul n (k + 1)
    have h2 := nt_ch_mul n k
    rw [nt_ch_s (n + 1) (k + 1), Nat.mul_add, h1]
    have h3 : (k + 1 + 1) * nt_ch (n + 1) (k + 1) = (n + 1) * nt_ch n k + nt_ch (n + 1) (k + 1) := by rw [Nat.add_mul (k + 1) 1, h2, Nat.one_mul]
    rw [h3, Nat.add_mul (n + 1) 1, Nat.one_mul, nt_ch_s n k, Nat.mul_add]
    omega
def nt_bs (n a : Nat) : Nat → Nat
  | 0 => 0
  | m + 1 => nt_bs n a m + nt_ch n m * a ^ m
theorem nt_bs_s (n a : Nat) : ∀ m, nt_bs (n + 1) a (m + 1) = nt_bs n a (m + 1) + a * nt_bs n a m
  | 0 => by
    show 0 + nt_ch (n + 1) 0 * a ^ 0 = 0 + nt_ch n 0 * a ^ 0 + a * 0
    rw [nt_ch_z, nt_ch_z]
    omega
  | m + 1 => by
    show nt_bs (n + 1) a (m + 1) + nt_ch (n + 1) (m + 1) * a ^ (m + 1) = nt_bs n a (m + 1) + nt_ch n (m + 1) * a ^ (m + 1) + a * (nt_bs n a m + nt_ch n m * a ^ m)
    rw [nt_bs_s n a m, nt_ch_s, Nat.add_mul, Nat.mul_add]
    have h : a * (nt_ch n m * a ^ m) = nt_ch n m * a ^ (m + 1) := by rw [Nat.pow_succ, Nat.mul_left_comm, Nat.mul_comm a]
    rw [h]
    omega
theorem nt_binom (a : Nat) : ∀ n, (a + 1) ^ n = nt_bs n a (n + 1)
  | 0 => by
    show 1 = 0 + nt_ch 0 0 * a ^ 0
    rw [nt_ch_z, Nat.pow_zero]
  | n + 1 => by
    have h1 : nt_bs n a (n + 2) = nt_bs n a (n + 1) := by
      show nt_bs n a (n + 1) + nt_ch n (n + 1) * a ^ (n + 1) = nt_bs n a (n + 1)
      rw [nt_ch_big n (n + 1) (by omega), Nat.zero_mul, Nat.add_zero]
    rw [nt_bs_s, h1, Nat.pow_succ, nt_binom a n, Nat.mul_add, Nat.mul_one, Nat.mul_comm a]
    omega
theorem nt_ch_p {p : Nat} (hp : nt_P p) {k : Nat} (h0 : k + 1 < p) : p ∣ nt_ch p (k + 1) := by
  obtain ⟨q, rfl⟩ : ∃ q, p = q + 1 := ⟨p - 1, by omega⟩
  have h1 : q + 1 ∣ (k + 1) * nt_ch (q + 1) (k + 1) := ⟨nt_ch q k, nt_ch_mul q k⟩
  rcases nt_euclid hp h1 with h2 | h2
  · exact absurd (Nat.le_of_dvd (by omega) h2) (by omega)
  · exact h2
theorem nt_bs_p {p : Nat} (hp : nt_P p) (a : Nat) : ∀ k, k < p → nt_bs p a (k + 1) % p = 1
  | 0, h => by
    show (0 + nt_ch p 0 * a ^ 0) % p = 1
    rw [nt_ch_z, Nat.pow_zero]
    exact Nat.mod_eq_of_lt hp.1
  | k + 1, h => by
    show (nt_bs p a (k + 1) + nt_ch p (k + 1) * a ^ (k + 1)) % p = 1
    obtain ⟨c, hc⟩ := nt_ch_p hp h
    rw [hc, Nat.mul_assoc, Nat.add_mul_mod_self_left]
    exact nt_bs_p hp a k (by omega)
theorem nt_dream {p : Nat} (hp : nt_P p) (a : Nat) : (a + 1) ^ p % p = (a ^ p + 1) % p := by
  rw [nt_binom a p]
  obtain ⟨q, rfl⟩ : ∃ q, p = q + 1 := ⟨p - 1, by have := hp.1; omega⟩
  show (nt_bs (q + 1) a (q + 1) + nt_ch (q + 1) (q + 1) * a ^ (q + 1)) % (q + 1) = _
  rw [nt_ch_self, Nat.one_mul, Nat.add_mod, nt_bs_p hp a q (by omega), Nat.add_mod_mod, Nat.add_comm]
theorem nt_fermat {p : Nat} (hp : nt_P p) : ∀ a : Nat, a ^ p % p = a % p
  | 0 => by
    obtain ⟨q, rfl⟩ : ∃ q, p = q + 1 := ⟨p - 1, by have := hp.1; omega⟩
    rw [Nat.pow_succ, Nat.mul_zero]
  | a + 1 => by rw [nt_dream hp, Nat.add_mod, nt_fermat hp a, ← Nat.add_mod]
theorem nt_ferm1 {p : Nat} (hp : nt_P p) {a : Nat} (ha : a % p ≠ 0) : a ^ (p - 1) % p = 1 := by
  have h2 := hp.1
  have h1 := nt_fermat hp a
  have h3 : a ^ p = a * a ^ (p - 1) := by
    obtain ⟨q, rfl⟩ : ∃ q, p = q + 1 := ⟨p - 1, by omega⟩
    rw [Nat.pow_succ, Nat.mul_comm, Nat.add_sub_cancel]
  have ha0 : 0 < a := Nat.pos_of_ne_zero fun z => ha (by rw [z, Nat.zero_mod])
  have hpos : 0 < a ^ (p - 1) := Nat.pow_pos ha0
  have h4 : p ∣ a * (a ^ (p - 1) - 1) := by
    rw [Nat.mul_sub, Nat.mul_one, ← h3]
    exact Nat.dvd_of_mod_eq_zero (Nat.sub_mod_eq_zero_of_mod_eq h1)
  rcases nt_euclid hp h4 with h5 | h5
  · exact absurd (Nat.mod_eq_zero_of_dvd h5) ha
  · obtain ⟨c, hc⟩ := h5
    have h6 : a ^ (p - 1) = 1 + p * c := by omega
    rw [h6, Nat.add_mul_mod_self_left]
    exact Nat.mod_eq_of_lt h2
theorem nt_inv {p : Nat} (hp : nt_P p) {a : Nat} (ha : a % p ≠ 0) : a ^ (p - 2) % p * a % p = 1 := by
  have h2 := hp.1
  by_cases h3 : p = 2
  · subst h3
    rw [Nat.sub_self, Nat.pow_zero]
    have : a % 2 = 1 := by omega
    omega
  · have h4 : a ^ (p - 2) * a = a ^ (p - 1) := by rw [show p - 1 = (p - 2) + 1 by omega, Nat.pow_succ]
    rw [Nat.mod_mul_mod, h4]
    exact nt_ferm1 hp ha
/-- powers, a bit a step -/
def nt_pw (m : Nat) : Nat → Nat → Nat → Nat → Nat
  | 0, v, _, _ => v
  | f + 1, v, b, e => nt_pw m f (cond (Nat.beq (e % 2) 1) (v * b % m) v) (b * b % m) (e / 2)
theorem nt_pw_spec (m : Nat) : ∀ (f v b e : Nat), e < 2 ^ f → nt_pw m f v b e % m = v * b ^ e % m
  | 0, v, b, e, h => by
    have : e = 0 := by omega
    subst this
    simp only [nt_pw, Nat.pow_zero, Nat.mul_one]
  | f + 1, v, b, e, h => by
    have h2 : e / 2 < 2 ^ f := by rw [Nat.pow_succ] at h; omega
    simp only [nt_pw]
    rw [nt_pw_spec m f _ _ _ h2, Nat.mul_mod, Nat.pow_mod, Nat.mod_mod, ← Nat.pow_mod, ← Nat.mul_mod, ← Nat.pow_two, ← Nat.pow_mul]
    have h3 := Nat.div_add_mod e 2
    cases hb : Nat.beq (e % 2) 1 with
    | true =>
      have h4 := Nat.eq_of_beq_eq_true hb
      have h5 : e = 2 * (e / 2) + 1 := by omega
      have h6 : b ^ e = b ^ (2 * (e / 2)) * b := congrArg (fun z => b ^ z) h5
      rw [cond, Nat.mod_mul_mod, h6, Nat.mul_assoc, Nat.mul_comm b]
    | false =>
      have h4 : e % 2 ≠ 1 := fun z => by rw [z] at hb; cases hb
      have h5 : e = 2 * (e / 2) := by omega
      rw [cond, ← h5]
def nt_p : Nat := 1073735023
def nt_n : Nat := 1073729077
set_option maxRecDepth 100000 in
theorem nt_p_prime : nt_P nt_p := nt_prime (f := 32768) (by decide) (by decide +kernel) (by decide)
set_option maxRecDepth 100000 in
theorem nt_n_prime : nt_P nt_n := nt_prime (f := 32768) (by decide) (by decide +kernel) (by decide)
end
section
/-! No point but none is of an order below n, where n points come from one of order n: there aren't three times as many points. -/
theorem eo_ph : ∀ (m n : Nat) (f : Nat → Nat), (∀ i, i < n → f i < m) → (∀ i j, i < n → j < n → f i = f j → i = j) → n ≤ m
  | 0, n, f, h, _ => by
    cases n with
    | zero => exact Nat.le_refl _
    | succ k => exact absurd (h 0 (Nat.succ_pos k)) (Nat.not_lt_zero _)
  | m + 1, n, f, h, hi => by
    cases n with
    | zero => exact Nat.zero_le _
    | succ k =>
      have hg := eo_ph m k (fun i => if f i = m then f k else f i) (fun i hik => ?_) (fun i j hik hjk hij => ?_)
      · exact Nat.succ_le_succ hg
      · have h1 := h i (by omega)
        have h2 := h k (by omega)
        show (if f i = m then f k else f i) < m
        by_cases he : f i = m
        · rw [if_pos he]
          have h3 : f k ≠ m := fun z => by
            have := hi i k (by omega) (by omega) (he.trans z.symm)
            omega
          omega
        · rw [if_neg he]
          omega
      · have hij : (if f i = m then f k else f i) = (if f j = m then f k else f j) := hij
        by_cases he : f i = m
        · by_cases hf : f j = m
          · exact hi i j (by omega) (by omega) (he.trans hf.symm)
          · rw [if_pos he, if_neg hf] at hij
            have := hi k j (by omega) (by omega) hij
            omega
        · by_cases hf : f j = m
          · rw [if_neg he, if_pos hf] at hij
            have := hi i k (by omega) (by omega) hij
            omega
          · rw [if_neg he, if_neg hf] at hij
            exact hi i j (by omega) (by omega) hij
theorem eo_bez {n m : Nat} (hn : nt_P n) (h0 : 0 < m) (h1 : m < n) : ∃ a c, m * a = 1 + n * c := by
  have h2 : m % n ≠ 0 := by rw [Nat.mod_eq_of_lt h1]; omega
  have h3 := nt_inv hn h2
  refine ⟨m ^ (n - 2) % n, m ^ (n - 2) % n * m / n, ?_⟩
  have h4 := Nat.div_add_mod (m ^ (n - 2) % n * m) n
  rw [h3] at h4
  rw [Nat.mul_comm m]
  omega
theorem eo_one {K : Type} [Lean.Grind.CommRing K] [DecidableEq K] {iv : K → K} (hF : ec_F K iv) {Q : Option (K × K)} (hQ : ec_on Q) {n m : Nat} (hn : nt_P n) (h0 : 0 < m) (h1 : m < n) (hnQ : ec_n iv Q n = none) (hmQ : ec_n iv Q m = none) : Q = none := by
  obtain ⟨a, c, h⟩ := eo_bez hn h0 h1
  have e1 : ec_n iv Q (m * a) = none := by rw [← ec_n_mul hF hQ, hmQ, ec_n_0]
  have e2 : ec_n iv Q (1 + n * c) = Q := by
    rw [← ec_n_add hF hQ, ← ec_n_mul hF hQ, hnQ, ec_n_0, ec_n_1]
    cases Q <;> rfl
  rw [← e2, ← h, e1]
theorem eo_meet {K : Type} [Lean.Grind.CommRing K] [DecidableEq K] {iv : K → K} (hF : ec_F K iv) {G P : Option (K × K)} (hG : ec_on G) (hP : ec_on P) {n m : Nat} (hn : nt_P n) (h0 : 0 < m) (h1 : m < n) (hnG : ec_n iv G n = none) (hmP : ec_n iv P m = none)
    {i j : Nat} (h : ec_n iv P j = ec_n iv G i) : ec_n iv P j = none := by
  refine eo_one hF (ec_on_n hF hP j) hn h0 h1 ?_ ?_
  · rw [h, ec_n_mul hF hG, Nat.mul_comm, ← ec_n_mul hF hG, hnG, ec_n_0]
  · rw [ec_n_mul hF hP, Nat.mul_comm, ← ec_n_mul hF hP, hmP, ec_n_0]
theorem eo_none {K : Type} [Lean.Grind.CommRing K] [DecidableEq K] (iv : K → K) (X : Option (K × K)) : ec_ad iv X none = X := by cases X <;> rfl
theorem eo_inj {K : Type} [Lean.Grind.CommRing K] [DecidableEq K] {iv : K → K} (hF : ec_F K iv) {G P : Option (K × K)} (hG : ec_on G) (hP : ec_on P) {n m : Nat} (hn : nt_P n) (h1 : m < n) (hnG : ec_n iv G n = none) (hmP : ec_n iv P m = none) (hG0 : G ≠ none)
    (hmin : ∀ k, 0 < k → k < m → ec_n iv P k ≠ none) {i j i' j' : Nat} (hi : i < n) (hi' : i' < n) (hj : j < m) (hj' : j' < m) (h : ec_ad iv (ec_n iv G i) (ec_n iv P j) = ec_ad iv (ec_n iv G i') (ec_n iv P j')) : i = i' ∧ j = j' := by
  have oG := ec_on_n hF hG
  have oP := ec_on_n hF hP
  have key : ∀ a b c d, ec_ad iv (ec_ad iv (ec_n iv G a) (ec_n iv P b)) (ec_ad iv (ec_n iv G c) (ec_n iv P d)) = ec_ad iv (ec_n iv G (a + c)) (ec_n iv P (b + d)) := by
    intro a b c d
    rw [ec_assoc hF (oG a) (oP b) (ec_on_ad hF (oG c) (oP d)), ← ec_assoc hF (oP b) (oG c) (oP d), ec_comm hF (oP b) (oG c), ec_assoc hF (oG c) (oP b) (oP d), ec_n_add hF hP, ← ec_assoc hF (oG a) (oG c) (oP (b + d)), ec_n_add hF hG]
  have e1 := key i j (n - i) (m - j)
  have e2 := key i' j' (n - i) (m - j)
  rw [h, e2, show i + (n - i) = n by omega, show j + (m - j) = m by omega, hnG, hmP] at e1
  have e3 : ec_ad iv (ec_n iv G (i' + (n - i))) (ec_n iv P (j' + (m - j))) = none := e1
  have e4 : ec_n iv P (j' + (m - j)) = ec_n iv G ((i' + (n - i)) * (n - 1)) := by
    have z1 : ec_ad iv (ec_n iv G ((i' + (n - i)) * (n - 1))) (ec_n iv G (i' + (n - i))) = none := by
      rw [ec_n_add hF hG]
      have : (i' + (n - i)) * (n - 1) + (i' + (n - i)) = n * (i' + (n - i)) := by
        obtain ⟨q, rfl⟩ : ∃ q, n = q + 1 := ⟨n - 1, by omega⟩
        rw [Nat.add_sub_cancel, Nat.mul_comm, Nat.add_mul, Nat.one_mul]
      rw [this, ← ec_n_mul hF hG, hnG, ec_n_0]
    have z2 := ec_assoc hF (oG ((i' + (n - i)) * (n - 1))) (oG (i' + (n - i))) (oP (j' + (m - j)))
    rw [z1, e3, eo_none] at z2
    exact z2
  have e5 := eo_meet hF hG hP hn (by omega) h1 hnG hmP e4
  have e6 : j' + (m - j) = m := by
    have z1 := ec_n_mod hF hP hmP (j' + (m - j))
    rw [e5] at z1
    by_cases c1 : j' + (m - j) < m
    · rw [Nat.mod_eq_of_lt c1] at z1
      exact absurd z1 (hmin _ (by omega) c1)
    · have z2 : (j' + (m - j)) % m = j' + (m - j) - m := by
        rw [Nat.mod_eq_sub_mod (by omega), Nat.mod_eq_of_lt (by omega)]
      rw [z2] at z1
      by_cases c2 : j' + (m - j) = m
      · exact c2
      · exact absurd z1 (hmin _ (by omega) (by omega))
  have e7 : ec_n iv G (i' + (n - i)) = none := by
    rw [e5, eo_none] at e3
    exact e3
  have e8 : i' + (n - i) = n := by
    have z1 := ec_n_mod hF hG hnG (i' + (n - i))
    rw [e7] at z1
    have z3 : ∀ k, 0 < k → k < n → ec_n iv G k ≠ none := fun k k0 k1 z => hG0 (eo_one hF hG hn k0 k1 hnG z)
    by_cases c1 : i' + (n - i) < n
    · rw [Nat.mod_eq_of_lt c1] at z1
      exact absurd z1 (z3 _ (by omega) c1)
    · have z2 : (i' + (n - i)) % n = i' + (n - i) - n := by
        rw [Nat.mod_eq_sub_mod (by omega), Nat.mod_eq_of_lt (by omega)]
      rw [z2] at z1
      by_cases c2 : i' + (n - i) = n
      · exact c2
      · exact absurd z1 (z3 _ (by omega) (by omega))
  exact ⟨by omega, by omega⟩
/-- 'num' numbers the points below b; three times n is more than b -/
theorem eo_order {K : Type} [Lean.Grind.CommRing K] [DecidableEq K] {iv : K → K} (hF : ec_F K iv) {G : Option (K × K)} (hG : ec_on G) {n b : Nat} (hn : nt_P n) (hnG : ec_n iv G n = none) (hG0 : G ≠ none) (num : Option (K × K) → Nat) (hb : ∀ Q, ec_on Q → num Q < b)
    (hinj : ∀ Q R, ec_on Q → ec_on R → num Q = num R → Q = R) (h3 : b < 3 * n) {P : Option (K × K)} (hP : ec_on P) (hP0 : P ≠ none) {d : Nat} (h0 : 0 < d) (hd : d < n) : ec_n iv P d ≠ none := by
  intro hz
  obtain ⟨m, ⟨hm0, hmz⟩, hmin⟩ := pk_least (fun k => 0 < k ∧ ec_n iv P k = none) ⟨d, h0, hz⟩
  have hmd : m ≤ d := Nat.le_of_not_lt fun z => hmin d z ⟨h0, hz⟩
  have m1 : m ≠ 1 := fun z => hP0 (by rw [z] at hmz; exact hmz)
  have m2 : m ≠ 2 := by
    intro z
    rw [z] at hmz
    have hmz : ec_ad iv P P = none := hmz
    cases P with
    | none => exact hP0 rfl
    | some p =>
      obtain ⟨x1, y1⟩ := p
      rw [ec_ad_some, if_pos rfl, if_pos rfl] at hmz
      cases hmz
  have hlt : m < n := by omega
  have hcount := eo_ph b (3 * n) (fun t => num (ec_ad iv (ec_n iv G (t / 3)) (ec_n iv P (t % 3)))) (fun t _ => hb _ (ec_on_ad hF (ec_on_n hF hG _) (ec_on_n hF hP _))) (fun s t hs ht hst => by
    have e := hinj _ _ (ec_on_ad hF (ec_on_n hF hG _) (ec_on_n hF hP _)) (ec_on_ad hF (ec_on_n hF hG _) (ec_on_n hF hP _)) hst
    have e2 := eo_inj hF hG hP hn hlt hnG hmz hG0 (fun k k0 k1 z => hmin k k1 ⟨k0, z⟩) (i := s / 3) (j := s % 3) (i' := t / 3) (j' := t % 3) (by omega) (by omega) (by omega) (by omega) e
    omega)
  omega
end
section
-- ===== PART A: goes FIRST, ahead of the names: the tables' words, and 'selects' of the private methods out of them =====
/-- a private method of a class that the tables say can be made, by its rows of tables_1 -/
def lw_okq (q : MethodName × Nat) : Prop := (q.1.cls ≠ "java/lang/invoke/MethodHandle" ∧ q.1.cls ≠ "java/lang/invoke/VarHandle") ∧ Cond.instantiable q.1.cls q.2 ∈ tables_1 ∧ Cond.privateMethod q.1 ∈ tables_1 ∧ Cond.instanceMethod q.1 ∈ tables_1
theorem lw_p0 : lw_okq (⟨"EvenCurveKeys$Typed", "sizeAt", "(I)I"⟩, 2) := ⟨⟨by decide +kernel, by decide +kernel⟩, List.mem_of_getElem? (i := 50) (by decide +kernel), List.mem_of_getElem? (i := 184) (by decide +kernel), List.mem_of_getElem? (i := 185) (by decide +kernel)⟩
theorem lw_p1 : lw_okq (⟨"EvenCurveKeys$Typed", "numberAt", "(I)I"⟩, 2) := ⟨⟨by decide +kernel, by decide +kernel⟩, List.mem_of_getElem? (i := 50) (by decide +kernel), List.mem_of_getElem? (i := 188) (by decide +kernel), List.mem_of_getElem? (i := 189) (by decide +kernel)⟩
theorem lw_p2 : lw_okq (⟨"EvenCurveKeys$Typed", "areFormOf", "(II)Z"⟩, 2) := ⟨⟨by decide +kernel, by decide +kernel⟩, List.mem_of_getElem? (i := 50) (by decide +kernel), List.mem_of_getElem? (i := 192) (by decide +kernel), List.mem_of_getElem? (i := 193) (by decide +kernel)⟩
theorem lw_p3 : lw_okq (⟨"java/lang/Throwable", "fillInStackTrace", "(I)Ljava/lang/Throwable;"⟩, 6) := ⟨⟨by decide +kernel, by decide +kernel⟩, List.mem_of_getElem? (i := 269) (by decide +kernel), List.mem_of_getElem? (i := 267) (by decide +kernel), List.mem_of_getElem? (i := 268) (by decide +kernel)⟩
theorem lw_p4 : lw_okq (⟨"EvenCurveKeys", "fill", "(IJJ)J"⟩, 5) := ⟨⟨by decide +kernel, by decide +kernel⟩, List.mem_of_getElem? (i := 18) (by decide +kernel), List.mem_of_getElem? (i := 317) (by decide +kernel), List.mem_of_getElem? (i := 318) (by decide +kernel)⟩
theorem lw_p5 : lw_okq (⟨"EvenCurveKeys", "pointOf", "(I)J"⟩, 5) := ⟨⟨by decide +kernel, by decide +kernel⟩, List.mem_of_getElem? (i := 18) (by decide +kernel), List.mem_of_getElem? (i := 347) (by decide +kernel), List.mem_of_getElem? (i := 348) (by decide +kernel)⟩
theorem lw_p6 : lw_okq (⟨"EvenCurveKeys", "secretOf", "(I)J"⟩, 5) := ⟨⟨by decide +kernel, by decide +kernel⟩, List.mem_of_getElem? (i := 18) (by decide +kernel), List.mem_of_getElem? (i := 395) (by decide +kernel), List.mem_of_getElem? (i := 396) (by decide +kernel)⟩
theorem lw_p7 : lw_okq (⟨"EvenCurveKeysModel", "lay", "(IJ)V"⟩, 13) := ⟨⟨by decide +kernel, by decide +kernel⟩, List.mem_of_getElem? (i := 528) (by decide +kernel), List.mem_of_getElem? (i := 632) (by decide +kernel), List.mem_of_getElem? (i := 633) (by decide +kernel)⟩
theorem lw_p8 : lw_okq (⟨"EvenCurveKeysModel", "full", "(I)Z"⟩, 13) := ⟨⟨by decide +kernel, by decide +kernel⟩, List.mem_of_getElem? (i := 528) (by decide +kernel), List.mem_of_getElem? (i := 648) (by decide +kernel), List.mem_of_getElem? (i := 649) (by decide +kernel)⟩
theorem lw_p9 : lw_okq (⟨"EvenCurveKeysModel", "noSecret", "(I)I"⟩, 13) := ⟨⟨by decide +kernel, by decide +kernel⟩, List.mem_of_getElem? (i := 528) (by decide +kernel), List.mem_of_getElem? (i := 667) (by decide +kernel), List.mem_of_getElem? (i := 668) (by decide +kernel)⟩
theorem lw_p10 : lw_okq (⟨"EvenCurveKeysModel", "noPoint", "(I)I"⟩, 13) := ⟨⟨by decide +kernel, by decide +kernel⟩, List.mem_of_getElem? (i := 528) (by decide +kernel), List.mem_of_getElem? (i := 693) (by decide +kernel), List.mem_of_getElem? (i := 694) (by decide +kernel)⟩
theorem lw_p11 : lw_okq (⟨"EvenCurveKeysModel", "layForm", "(II)V"⟩, 13) := ⟨⟨by decide +kernel, by decide +kernel⟩, List.mem_of_getElem? (i := 528) (by decide +kernel), List.mem_of_getElem? (i := 731) (by decide +kernel), List.mem_of_getElem? (i := 732) (by decide +kernel)⟩
theorem lw_p12 : lw_okq (⟨"EvenCurveKeysModel", "layByte", "(I)V"⟩, 13) := ⟨⟨by decide +kernel, by decide +kernel⟩, List.mem_of_getElem? (i := 528) (by decide +kernel), List.mem_of_getElem? (i := 735) (by decide +kernel), List.mem_of_getElem? (i := 736) (by decide +kernel)⟩
theorem lw_p13 : lw_okq (⟨"EvenCurveKeysModel", "layNumber", "(I)V"⟩, 13) := ⟨⟨by decide +kernel, by decide +kernel⟩, List.mem_of_getElem? (i := 528) (by decide +kernel), List.mem_of_getElem? (i := 744) (by decide +kernel), List.mem_of_getElem? (i := 745) (by decide +kernel)⟩
theorem lw_p14 : lw_okq (⟨"EvenCurveKeysModel", "numberAt", "(I)I"⟩, 13) := ⟨⟨by decide +kernel, by decide +kernel⟩, List.mem_of_getElem? (i := 528) (by decide +kernel), List.mem_of_getElem? (i := 756) (by decide +kernel), List.mem_of_getElem? (i := 757) (by decide +kernel)⟩
theorem lw_p15 : lw_okq (⟨"EvenCurveKeysModel", "byteAt", "(I)I"⟩, 13) := ⟨⟨by decide +kernel, by decide +kernel⟩, List.mem_of_getElem? (i := 528) (by decide +kernel), List.mem_of_getElem? (i := 760) (by decide +kernel), List.mem_of_getElem? (i := 761) (by decide +kernel)⟩
def lw_privs_1 : List (MethodName × Nat) := [(⟨"EvenCurveKeys$Typed", "sizeAt", "(I)I"⟩, 2), (⟨"EvenCurveKeys$Typed", "numberAt", "(I)I"⟩, 2), (⟨"EvenCurveKeys$Typed", "areFormOf", "(II)Z"⟩, 2), (⟨"java/lang/Throwable", "fillInStackTrace", "(I)Ljava/lang/Throwable;"⟩, 6), (⟨"EvenCurveKeys", "fill", "(IJJ)J"⟩, 5), (⟨"EvenCurveKeys", "pointOf", "(I)J"⟩, 5), (⟨"EvenCurveKeys", "secretOf", "(I)J"⟩, 5), (⟨"EvenCurveKeysModel", "lay", "(IJ)V"⟩, 13), (⟨"EvenCurveKeysModel", "full", "(I)Z"⟩, 13), (⟨"EvenCurveKeysModel", "noSecret", "(I)I"⟩, 13), (⟨"EvenCurveKeysModel", "noPoint", "(I)I"⟩, 13), (⟨"EvenCurveKeysModel", "layForm", "(II)V"⟩, 13), (⟨"EvenCurveKeysModel", "layByte", "(I)V"⟩, 13), (⟨"EvenCurveKeysModel", "layNumber", "(I)V"⟩, 13), (⟨"EvenCurveKeysModel", "numberAt", "(I)I"⟩, 13), (⟨"EvenCurveKeysModel", "byteAt", "(I)I"⟩, 13)]
theorem lw_r1 : ∀ q ∈ lw_privs_1, lw_okq q := List.forall_mem_cons.mpr ⟨lw_p0, List.forall_mem_cons.mpr ⟨lw_p1, List.forall_mem_cons.mpr ⟨lw_p2, List.forall_mem_cons.mpr ⟨lw_p3, List.forall_mem_cons.mpr ⟨lw_p4, List.forall_mem_cons.mpr ⟨lw_p5, List.forall_mem_cons.mpr ⟨lw_p6, List.forall_mem_cons.mpr ⟨lw_p7, List.forall_mem_cons.mpr ⟨lw_p8, List.forall_mem_cons.mpr ⟨lw_p9, List.forall_mem_cons.mpr ⟨lw_p10, List.forall_mem_cons.mpr ⟨lw_p11, List.forall_mem_cons.mpr ⟨lw_p12, List.forall_mem_cons.mpr ⟨lw_p13, List.forall_mem_cons.mpr ⟨lw_p14, List.forall_mem_cons.mpr ⟨lw_p15, fun _ h => absurd h List.not_mem_nil⟩⟩⟩⟩⟩⟩⟩⟩⟩⟩⟩⟩⟩⟩⟩⟩
theorem lw_p16 : lw_okq (⟨"EvenCurveKeysModel", "same", "(II)Z"⟩, 13) := ⟨⟨by decide +kernel, by decide +kernel⟩, List.mem_of_getElem? (i := 528) (by decide +kernel), List.mem_of_getElem? (i := 764) (by decide +kernel), List.mem_of_getElem? (i := 765) (by decide +kernel)⟩
def lw_privs_2 : List (MethodName × Nat) := [(⟨"EvenCurveKeysModel", "same", "(II)Z"⟩, 13)]
theorem lw_r2 : ∀ q ∈ lw_privs_2, lw_okq q := List.forall_mem_cons.mpr ⟨lw_p16, fun _ h => absurd h List.not_mem_nil⟩
def lw_privs : List (MethodName × Nat) := lw_privs_1 ++ (lw_privs_2)
def lw_tbl : List Cond := k2_sels lw_privs ++ tables_1
theorem lw_privs_ok : ∀ q ∈ lw_privs, lw_okq q := by
  show ∀ q ∈ lw_privs_1 ++ (lw_privs_2), lw_okq q
  exact List.forall_mem_append.mpr ⟨lw_r1, lw_r2⟩
/-! ===== BEGIN words of one list among another's, by their places ===== -/
theorem goodIn_r {big : List Cond} (ws : List Cond) (ps : List Nat) (hp : ws = ps.filterMap (fun i => big[i]?)) (h : ws.all goodWord = true) : GoodIn big ws := by
  intro w hw
  have h1 := List.all_eq_true.mp h w hw
  rw [hp] at hw
  obtain ⟨i, -, hi⟩ := List.mem_filterMap.mp hw
  have hm : w ∈ big := by first | exact List.mem_of_getElem? hi | exact List.getElem?_mem hi
  exact ⟨hm, good_of_word h1⟩
theorem goodIn_app {big a b : List Cond} (ha : GoodIn big a) (hb : GoodIn big b) : GoodIn big (a ++ b) := fun w h => (List.mem_append.mp h).elim (ha w) (hb w)
theorem goodIn_ca {big a b : List Cond} {c : Cond} (ha : GoodIn big (c :: a)) (hb : GoodIn big b) : GoodIn big (c :: (a ++ b)) := fun w h => (List.mem_cons.mp h).elim (fun e => ha w (List.mem_cons.mpr (Or.inl e))) (fun h => (List.mem_append.mp h).elim (fun h => ha w (List.mem_cons.mpr (Or.inr h))) (hb w))
theorem goodIn_sub {big ws : List Cond} (hm : ∀ w ∈ ws, w ∈ big) (h : ws.all goodWord = true) : GoodIn big ws := fun w hw => ⟨hm w hw, good_of_word (List.all_eq_true.mp h w hw)⟩
/-! ===== END ===== -/

/-! ===== BEGIN exceptions that leave a method, and their catching by the caller (launches without stack traces) ===== -/
section VXA
/-! The laws vx_back, vx_callV, vx_callS, vx_callSW, vx_throw0, vx_throwS follow proofs of the library, with one case more: JvmDerived/Free/Laws.lean (Back.of_free), Shelf42/LK1.lean (callV, callS), Shelf/KitTraced.lean (throwNew0V, throwNewS). -/
/-- where a method has thrown q: the class by its name, the cell, what was written, the world -/
def vx_T (XC : String → State → State → Prop) (st : State) (q : Addr) (t : State) (mc ms : Nat) (free : Addr → Prop) : Prop :=
  ∃ (E : String) (ce : Cell) (L : List Loc), XC E st t ∧ t.heap[q]? = some ce ∧ ce.vm = .none ∧ st.vm.findClass E = some ce.cls ∧ st.WarmedH t.vm ∧ st.sameButNew ({ t with vm := st.vm } : State) L mc ms ∧ ∀ z ∈ L, free z.base
def vx_Q (Qc : Array Value → State → Outcome → State → Prop) (XC : String → State → State → Prop) (mc ms : Nat) (free : Addr → Prop) : Array Value → State → Outcome → State → Prop := fun a st o t =>
  (Qc a st o t ∧ ∃ L, FrameEnd st o t L mc ms ∧ ∀ q ∈ L, free q.base) ∨ ∃ q, o = .threw q ∧ vx_T XC st q t mc ms free
/-- a callee that returns or throws -/
def vx_Met (l : Launch) (y : MethodName) (ws : List Cond) (rm : Room) (Pc : Array Value → State → Prop) (Qc : Array Value → State → Outcome → State → Prop) (XC : String → State → State → Prop) (mc ms : Nat) (free : Addr → Prop) : Prop :=
  MetFree l y (headSpec ws rm) Pc (fun _ _ _ _ _ => True) (vx_Q Qc XC mc ms free)
def vx_Post (XC : String → State → State → Prop) (mc ms : Nat) (free : Addr → Prop) : Pt → Array Value → Addr → Pt → Prop := fun A a q B =>
  ∃ (g : JFrame) (mk : MethodId) (t : State) (L : List Loc) (E : String) (ce : Cell), B.U.heap = t.heap ∧ B.U.vm = t.vm ∧ XC E (A.U.calling g mk a) t ∧ t.heap[q]? = some ce ∧ ce.vm = .none ∧ A.U.vm.findClass E = some ce.cls ∧ B.locs = A.locs ++ L ∧ (∀ z ∈ L, free z.base) ∧ B.cells = A.cells + mc ∧ B.slots = A.slots + ms
def vx_Back (l : Launch) (R : Room) (p : Program) (e : Env) (below : List Frame) (s : State) (sargs : Array Value) (y : MethodName) (len W9 : Nat)
    (Pre : Pt → Array Value → Prop) (Post : Pt → Array Value → Option Value → Pt → Prop) (PostX : Pt → Array Value → Addr → Pt → Prop) : Prop :=
  ∀ (m : MethodId) (meth : Method) (c : Code) (A : Pt) (g : JFrame) (ig : Instr) (mk : MethodId) (a : Array Value),
    Stand p l e R s m sargs below meth c A.U A.locs A.cells A.slots → g.method = m → g.locals.size = c.maxLocals → decode c.code g.pc = .ok (ig, len) →
    2 * g.monitorRoom + (g.stack.map fun v => v.category).sum ≤ W9 → A.U.methodNamed? y = some mk → Pre A a →
    (∃ (v : Option Value) (B : Pt), Stand p l e R s m sargs below meth c B.U B.locs B.cells B.slots ∧ Post A a v B ∧
      Steps p.tables e below (doInvoke e (A.U.setTop g) [] mk a).1 (B.U.setTop { g with pc := g.pc + len, stack := v.toList ++ g.stack })) ∨
    (∃ (q : Addr) (B : Pt), Stand p l e R s m sargs below meth c B.U B.locs B.cells B.slots ∧ PostX A a q B ∧
      Steps p.tables e below (doInvoke e (A.U.setTop g) [] mk a).1 ((B.U.setTop g).pushFrame (.throwing q)))
section Payer
variable {l : Launch} {R : Room} {p : Program} {e : Env} {below : List Frame} {s : State} {sargs : Array Value} {y : MethodName} {len W9 : Nat}
theorem vx_back {ws : List Cond} {rm : Room} {Pc : Array Value → State → Prop} {Qc : Array Value → State → Outcome → State → Prop} {XC : String → State → State → Prop} {mc ms : Nat} {free : Addr → Prop} {bytes : ByteArray} {maxL : Nat} {ret : Option FieldType}
    (hM : vx_Met l y ws rm Pc Qc XC mc ms free) (hblind : FrameBlind Pc) (hrc : rm.cells = mc) (hrs : rm.slots = ms)
    (hframes : rm.frames + 1 ≤ R.frames) (hlocals : W9 + (maxL + 11) + rm.locals ≤ R.locals)
    (hws : ∀ w ∈ ws, ∀ a' U, s.WarmedH U.vm → w.before a' U = true) (hcode : Cond.code y bytes maxL ret ∈ ws) (hinit : ∀ a' U, s.WarmedH U.vm → (Cond.initialized y.cls).before a' U = true) :
    vx_Back l R p e below s sargs y len W9 (PreOf R mc ms Pc) (PostOf Qc mc ms free) (vx_Post XC mc ms free) := by
  intro m meth c A g ig mk a X hg hsize hdg hW hn hp
  have h1 : (headSpec ws rm).pre.before a A.U = true := atoms_intro fun w hw => hws w hw _ _ X.warmed
  have h2 : (Cond.code y bytes maxL ret).before a A.U = true := hws _ hcode _ _ X.warmed
  have h3 : (Cond.initialized y.cls).before a A.U = true := hinit _ _ X.warmed
  have h4 : A.cells + (headSpec ws rm).room.cells ≤ R.cells := by rw [show (headSpec ws rm).room.cells = mc from hrc]; exact hp.1
  have h5 : A.slots + (headSpec ws rm).room.slots ≤ R.slots := by rw [show (headSpec ws rm).room.slots = ms from hrs]; exact hp.2.1
  have hPc : Pc a (A.U.calling g mk a) := hblind _ _ _ _ hp.2.2
  obtain ⟨U, Ls, c0, s0⟩ := A
  dsimp only [Pt.U, Pt.locs, Pt.cells, Pt.slots] at h1 h2 h3 h4 h5 X hn hPc ⊢
  obtain ⟨methY, cY, hmY, hcY, -, hlY, -, -, -, -⟩ := Cond.code_spec hn h2
  obtain ⟨kY, hkY, -⟩ := className_of_methodNamed hn
  have hinitY : kY.init = .initialized := Cond.initialized_spec (findClass_of_methodNamed hn) hkY h3
  have h : At U g.method c below := by rw [hg]; exact X.here
  have hlocals9 : W9 + (maxL + 11) + (headSpec ws rm).room.locals ≤ R.locals := hlocals
  have happ : (headSpec ws rm).appliesLoose y e.platform (U.calling g mk a) = true :=
    Spec.appliesLoose_calling (g := g) h hdg hn hkY hinitY
      (X.room_calling (g := g) (R' := (headSpec ws rm).room) hsize hmY hcY hframes (by rw [hlY]; omega) h4 h5) h1
  obtain ⟨mid, hmid⟩ := h.above
  have hfr : (U.setTop g).frames = (.java g :: mid) ++ below := by rw [State.frames_setTop' g h.top, hmid]; rfl
  obtain ⟨o, s₂, hsteps, -, hend, hq⟩ := Steps.callFree hM p X.admits X.cas X.clock (acts := []) hfr happ hPc trivial
  have hq' : vx_Q Qc XC mc ms free a (U.calling g mk a) o s₂ := hq
  rw [State.frames_setTop' g h.top] at hend
  obtain ⟨g₀, hg0⟩ := Option.isSome_iff_exists.mp h.top
  obtain ⟨r, hr⟩ := State.topJava?_eq_some.mp hg0
  have hr' : (({ U with heap := s₂.heap, slotsUsed := s₂.slotsUsed } : State).setVm s₂.vm).frames = .java g₀ :: r := hr
  rcases hq' with ⟨hqc, L, hfe, hL⟩ | ⟨q, rfl, E, ce, L, hx, hce, hcv, hcl, hW₂, hsm, hL⟩
  · obtain ⟨⟨v, rfl⟩, hW₂, e2, q2, q3, q4, q5, q6⟩ := id hfe
    have e3 : s₂ = ({ (U.calling g mk a).setFrames s₂.frames with heap := s₂.heap, slotsUsed := s₂.slotsUsed } : State).setVm s₂.vm := by
      have : s₂ = ({ s₂ with vm := (U.calling g mk a).vm } : State).setVm s₂.vm := rfl
      rw [e2] at this
      exact this
    obtain ⟨c₂, i₂, len₂, hc₂, hd₂, hf₂⟩ := hend
    have hW' : U.WarmedH s₂.vm := hW₂
    have hcc : c₂ = c := by
      have h1 : s₂.code? g.method = U.code? g.method := by
        rw [State.code?_eq, State.code?_eq, hW'.alike.method?]
      exact Option.some.inj (hc₂.symm.trans (h1.trans h.code))
    subst hcc
    have hlen : len₂ = len := by rw [hdg] at hd₂; cases hd₂; rfl
    subst hlen
    have hs₂ : s₂ = (({ U with heap := s₂.heap, slotsUsed := s₂.slotsUsed } : State).setVm s₂.vm).setTop { g with pc := g.pc + len₂, stack := v.toList ++ g.stack } := by
      refine e3.trans ?_
      rw [hf₂, State.calling_eq h.top, State.setFrames_setFrames, State.setTop_of_frames _ hr', hr]
      rfl
    have hsame : U.sameButNew ({ U with heap := s₂.heap, slotsUsed := s₂.slotsUsed } : State) L mc ms := by
      refine ⟨?_, q2, q3, q4, q5, q6⟩
      obtain ⟨t, ht, -⟩ := State.frames_cons hr
      show ({ U with heap := s₂.heap, slotsUsed := s₂.slotsUsed } : State) = { U.setFrames U.frames with heap := s₂.heap, slotsUsed := s₂.slotsUsed }
      rw [State.setFrames_self ht]
    subst hg
    refine Or.inl ⟨v, ⟨(({ U with heap := s₂.heap, slotsUsed := s₂.slotsUsed } : State).setVm s₂.vm), Ls ++ L, c0 + mc, s0 + ms⟩,
      ⟨X.admits, X.cas, X.clock, X.frames, X.room, X.hears, X.method, X.code, (X.here.setHeapUsed s₂.heap s₂.slotsUsed).setVm hW'.alike, X.tail, State.WarmedH.trans X.warmed hW', X.limits, X.bytes, X.same.trans (hsame.setVm s.vm)⟩,
      ⟨g, mk, s₂, L, rfl, rfl, hqc, rfl, hL, rfl, rfl⟩, ?_⟩
    show Steps p.tables e below _ ((({ U with heap := s₂.heap, slotsUsed := s₂.slotsUsed } : State).setVm s₂.vm).setTop { g with pc := g.pc + len₂, stack := v.toList ++ g.stack })
    rw [← hs₂]
    exact hsteps
  · obtain ⟨e2, q2, q3, q4, q5, q6⟩ := id hsm
    have e3 : s₂ = ({ (U.calling g mk a).setFrames s₂.frames with heap := s₂.heap, slotsUsed := s₂.slotsUsed } : State).setVm s₂.vm := by
      have : s₂ = ({ s₂ with vm := (U.calling g mk a).vm } : State).setVm s₂.vm := rfl
      rw [e2] at this
      exact this
    have hf₂ : s₂.frames = .throwing q :: .java g :: U.frames.tail := hend
    have hW' : U.WarmedH s₂.vm := hW₂
    have hs₂ : s₂ = ((({ U with heap := s₂.heap, slotsUsed := s₂.slotsUsed } : State).setVm s₂.vm).setTop g).pushFrame (.throwing q) := by
      refine e3.trans ?_
      rw [hf₂, State.calling_eq h.top, State.setFrames_setFrames, State.pushFrame, State.frames_setTop _ hr', State.setTop_of_frames _ hr', State.setFrames_setFrames, hr]
      rfl
    have hsame : U.sameButNew ({ U with heap := s₂.heap, slotsUsed := s₂.slotsUsed } : State) L mc ms := by
      refine ⟨?_, q2, q3, q4, q5, q6⟩
      obtain ⟨t, ht, -⟩ := State.frames_cons hr
      show ({ U with heap := s₂.heap, slotsUsed := s₂.slotsUsed } : State) = { U.setFrames U.frames with heap := s₂.heap, slotsUsed := s₂.slotsUsed }
      rw [State.setFrames_self ht]
    subst hg
    refine Or.inr ⟨q, ⟨(({ U with heap := s₂.heap, slotsUsed := s₂.slotsUsed } : State).setVm s₂.vm), Ls ++ L, c0 + mc, s0 + ms⟩,
      ⟨X.admits, X.cas, X.clock, X.frames, X.room, X.hears, X.method, X.code, (X.here.setHeapUsed s₂.heap s₂.slotsUsed).setVm hW'.alike, X.tail, State.WarmedH.trans X.warmed hW', X.limits, X.bytes, X.same.trans (hsame.setVm s.vm)⟩,
      ⟨g, mk, s₂, L, E, ce, rfl, rfl, hx, hce, hcv, hcl, rfl, hL, rfl, rfl⟩, ?_⟩
    show Steps p.tables e below _ (((({ U with heap := s₂.heap, slotsUsed := s₂.slotsUsed } : State).setVm s₂.vm).setTop g).pushFrame (.throwing q))
    rw [← hs₂]
    exact hsteps
end Payer
section Calls
variable {p : Program} {l : Launch} {e : Env} {R : Room} {s : State} {m : MethodId} {args : Array Value} {below : List Frame} {meth : Method} {c : Code} {T : State} {locs : List Loc} {cells slots : Nat}
theorem vx_callV (X : Stand p l e R s m args below meth c T locs cells slots) (hexec : p.tables.exec = Jvm.exec) {own C : String} {index : Nat} {y : MethodName} {bytes : ByteArray} {maxL : Nat} {ret : Option FieldType}
    (hown : s.vm.findClass own = some m.cls) (hlink : (Cond.methodLink own index y).before args s = true) (hinst : (Cond.instanceMethod y).before args s = true) (hsel : (Cond.selects C y y).before args s = true)
    (hcode : (Cond.code y bytes maxL ret).before args s = true) (hy : y.cls ≠ "java/lang/invoke/MethodHandle" ∧ y.cls ≠ "java/lang/invoke/VarHandle")
    {W9 : Nat} {Pre : Pt → Array Value → Prop} {Post : Pt → Array Value → Option Value → Pt → Prop} {PostX : Pt → Array Value → Addr → Pt → Prop} (hK : vx_Back l R p e below s args y 3 W9 Pre Post PostX)
    {b : Addr} {cellB : Cell} (hcell : T.heap[b]? = some cellB) (hobj : cellB.vm.isStatics = false) (hcls : s.vm.findClass C = some cellB.cls)
    {g : JFrame} (hg : g.method = m) (hsize : g.locals.size = c.maxLocals) {argsL rest : List Value} (hlen : ∀ sig, parseMethodDescriptor y.desc = some sig → argsL.length = sig.parameters.length)
    (hstack : g.stack = argsL.reverse ++ .ref b :: rest) (hW : 2 * g.monitorRoom + (rest.map fun v => v.category).sum ≤ W9) (hdg : decode c.code g.pc = .ok (.invokevirtual index, 3))
    (hpre : ∀ vm₁, s.WarmedH vm₁ → Pre ⟨T.setVm vm₁, locs, cells, slots⟩ (Value.ref b :: argsL).toArray) :
    (∃ (v : Option Value) (vm₁ : Vm) (B : Pt), s.WarmedH vm₁ ∧ Stand p l e R s m args below meth c B.U B.locs B.cells B.slots ∧ Post ⟨T.setVm vm₁, locs, cells, slots⟩ (Value.ref b :: argsL).toArray v B ∧
      ∀ target, Steps p.tables e below (B.U.setTop { g with pc := g.pc + 3, stack := v.toList ++ rest }) target → Steps p.tables e below (T.setTop g) target) ∨
    (∃ (q : Addr) (vm₁ : Vm) (B : Pt), s.WarmedH vm₁ ∧ Stand p l e R s m args below meth c B.U B.locs B.cells B.slots ∧ PostX ⟨T.setVm vm₁, locs, cells, slots⟩ (Value.ref b :: argsL).toArray q B ∧
      Steps p.tables e below (T.setTop g) ((B.U.setTop { g with stack := rest }).pushFrame (.throwing q))) := by
  obtain ⟨mk, methM, hnamed, hmethM, hstM, habM⟩ := Cond.instanceMethod_spec hinst
  obtain ⟨methM', cM, hmethM', -, -, -, -, -, -, hsigM⟩ := Cond.code_spec hnamed hcode
  cases hmethM.symm.trans hmethM'
  obtain ⟨c2, r2, m2, q1, q2, q3, q4, kP, hkP, hkPi⟩ := Cond.selects_spec hsel
  cases hcls.symm.trans q1
  cases (State.methodFound?_of_named hnamed hy).symm.trans q2
  cases hnamed.symm.trans q3
  have hselP : selectMethod e.platform s.vm cellB.cls mk = .method mk := by rw [Launch.admits_selectMethod X.admits]; exact q4
  obtain ⟨vm₁, X₁, hstep₁⟩ := X.invokevirtual hexec hown hlink hnamed hmethM hstM hkP hkPi hy (a := b) (cell := cellB) hcell
    (fun z h => by rw [h] at hobj; cases hobj) hselP hmethM habM hkP hkPi (g := g) hg (argsL := argsL) (rest := rest) (hlen _ hsigM) hstack hdg
  rcases hK m meth c ⟨T.setVm vm₁, locs, cells, slots⟩ { g with stack := rest } (.invokevirtual index) mk (Value.ref b :: argsL).toArray X₁ hg hsize hdg hW (X₁.named hnamed) (hpre vm₁ X₁.warmed) with ⟨v, B, X', hpost, hsteps⟩ | ⟨q, B, X', hpost, hsteps⟩
  · exact Or.inl ⟨v, vm₁, B, X₁.warmed, X', hpost, fun target h => hstep₁ _ fun acts => by rw [doInvoke_state]; exact hsteps.trans h⟩
  · exact Or.inr ⟨q, vm₁, B, X₁.warmed, X', hpost, hstep₁ _ fun acts => by rw [doInvoke_state]; exact hsteps⟩
theorem vx_callS (X : Stand p l e R s m args below meth c T locs cells slots) (hexec : p.tables.exec = Jvm.exec) {own : String} {index : Nat} {y : MethodName} {bytes : ByteArray} {maxL : Nat} {ret : Option FieldType}
    (hown : s.vm.findClass own = some m.cls) (hlink : (Cond.methodLink own index y).before args s = true) (hstat : (Cond.static y).before args s = true) (hinit : (Cond.initialized y.cls).before args s = true)
    (hcode : (Cond.code y bytes maxL ret).before args s = true) (hy : y.cls ≠ "java/lang/invoke/MethodHandle" ∧ y.cls ≠ "java/lang/invoke/VarHandle")
    {W9 : Nat} {Pre : Pt → Array Value → Prop} {Post : Pt → Array Value → Option Value → Pt → Prop} {PostX : Pt → Array Value → Addr → Pt → Prop} (hK : vx_Back l R p e below s args y 3 W9 Pre Post PostX)
    {g : JFrame} (hg : g.method = m) (hsize : g.locals.size = c.maxLocals) {argsL rest : List Value} (hlen : ∀ sig, parseMethodDescriptor y.desc = some sig → argsL.length = sig.parameters.length)
    (hstack : g.stack = argsL.reverse ++ rest) (hW : 2 * g.monitorRoom + (rest.map fun v => v.category).sum ≤ W9) (hdg : decode c.code g.pc = .ok (.invokestatic index, 3))
    (hpre : ∀ vm₁, s.WarmedH vm₁ → Pre ⟨T.setVm vm₁, locs, cells, slots⟩ argsL.toArray) :
    (∃ (v : Option Value) (vm₁ : Vm) (B : Pt), s.WarmedH vm₁ ∧ Stand p l e R s m args below meth c B.U B.locs B.cells B.slots ∧ Post ⟨T.setVm vm₁, locs, cells, slots⟩ argsL.toArray v B ∧
      ∀ target, Steps p.tables e below (B.U.setTop { g with pc := g.pc + 3, stack := v.toList ++ rest }) target → Steps p.tables e below (T.setTop g) target) ∨
    (∃ (q : Addr) (vm₁ : Vm) (B : Pt), s.WarmedH vm₁ ∧ Stand p l e R s m args below meth c B.U B.locs B.cells B.slots ∧ PostX ⟨T.setVm vm₁, locs, cells, slots⟩ argsL.toArray q B ∧
      Steps p.tables e below (T.setTop g) ((B.U.setTop { g with stack := rest }).pushFrame (.throwing q))) := by
  obtain ⟨mk, hnamed⟩ := Cond.code_named hcode
  obtain ⟨methM, cM, hmethM, -, -, -, -, -, -, hsigM⟩ := Cond.code_spec hnamed hcode
  have hstatic : methM.isStatic = true := Cond.static_spec hnamed hmethM hstat
  obtain ⟨kP, hkP, -⟩ := className_of_methodNamed hnamed
  have hinitP : kP.init = .initialized := Cond.initialized_spec (findClass_of_methodNamed hnamed) hkP hinit
  obtain ⟨vm₁, X₁, hstep₁⟩ := X.invokestatic hexec hown hlink hnamed hmethM hstatic hkP hinitP hy (g := g) hg (argsL := argsL) (rest := rest) (hlen _ hsigM) hstack hdg
  rcases hK m meth c ⟨T.setVm vm₁, locs, cells, slots⟩ { g with stack := rest } (.invokestatic index) mk argsL.toArray X₁ hg hsize hdg hW (X₁.named hnamed) (hpre vm₁ X₁.warmed) with ⟨v, B, X', hpost, hsteps⟩ | ⟨q, B, X', hpost, hsteps⟩
  · exact Or.inl ⟨v, vm₁, B, X₁.warmed, X', hpost, fun target h => hstep₁ _ fun acts => by rw [doInvoke_state]; exact hsteps.trans h⟩
  · exact Or.inr ⟨q, vm₁, B, X₁.warmed, X', hpost, hstep₁ _ fun acts => by rw [doInvoke_state]; exact hsteps⟩
end Calls
theorem vx_cls {s : State} {T : State} {vm₁ : Vm} {E : String} {k : ClassId} (hW : s.WarmedH vm₁) (h : (T.setVm vm₁).vm.findClass E = some k) : s.vm.findClass E = some k := by
  have h1 : vm₁.findClass E = some k := h
  rw [hW.alike.findClass] at h1
  exact h1
/-- the method's frame g, with q thrown over it -/
def vx_W (p : Program) (l : Launch) (e : Env) (R : Room) (s : State) (m : MethodId) (args : Array Value) (below : List Frame) (meth : Method) (c : Code) (H : Heap) (locs : List Loc) (cells slots : Nat) (Q : State → Prop) (g : JFrame) (q : Addr) : Prop :=
  ∀ T : State, T.heap = H → Stand p l e R s m args below meth c T locs cells slots → ∃ t, Steps p.tables e below ((T.setTop g).pushFrame (.throwing q)) t ∧ Q t
def vx_Run (p : Program) (l : Launch) (e : Env) (R : Room) (s : State) (m : MethodId) (args : Array Value) (below : List Frame) (meth : Method) (c : Code) (H : Heap) (locs : List Loc) (cells slots mc ms : Nat) (g : JFrame) (rest : List Value) (Qa : State → Outcome → State → Prop) (XC : String → State → State → Prop) (free : Addr → Prop) : Prop :=
  ∀ T : State, T.heap = H → Stand p l e R s m args below meth c T locs cells slots →
    (∃ (v : Option Value) (st₀ t T' : State) (L : List Loc), st₀.heap = H ∧ Stand p l e R s m args below meth c T' (locs ++ L) (cells + mc) (slots + ms) ∧ (∀ q ∈ L, free q.base) ∧ T'.heap = t.heap ∧ T'.vm = t.vm ∧ Qa st₀ (.returned v) t ∧
      Goes p e below T g T' { g with pc := g.pc + 3, stack := v.toList ++ rest }) ∨
    (∃ (q : Addr) (st₀ t T' : State) (L : List Loc) (E : String) (ce : Cell), st₀.heap = H ∧ Stand p l e R s m args below meth c T' (locs ++ L) (cells + mc) (slots + ms) ∧ (∀ z ∈ L, free z.base) ∧ T'.heap = t.heap ∧ T'.vm = t.vm ∧ XC E st₀ t ∧ t.heap[q]? = some ce ∧ ce.vm = .none ∧ s.vm.findClass E = some ce.cls ∧
      Steps p.tables e below (T.setTop g) ((T'.setTop { g with stack := rest }).pushFrame (.throwing q)))
def vx_X {S : Type} (px : S → Prop) (B : String → S → State → Prop) (A : Nat → Prop) : String → State → State → Prop := fun E st t => ∃ u : S, px u ∧ B E u t ∧ va_F A st t
section Runs
variable {p : Program} {l : Launch} {e : Env} {R : Room} {s : State} {m : MethodId} {args : Array Value} {below : List Frame} {meth : Method} {c : Code} {H : Heap} {locs : List Loc} {cells slots : Nat}
variable {y : MethodName} {bytes cc : ByteArray} {maxL nL mc ms n index : Nat} {ret : Option FieldType} {ws : List Cond} {rm : Room} {Pc : Array Value → State → Prop} {Qc : Array Value → State → Outcome → State → Prop} {XC : String → State → State → Prop} {free : Addr → Prop} {Ts : List Cond} {own C : String} {b : Addr} {As rest : List Value} {g : JFrame}
theorem vx_callBack (cb : CallB R s args own index y bytes maxL ret ws rm mc ms n) (hM : vx_Met l y ws rm Pc Qc XC mc ms free) (hbl : FrameBlind Pc) : vx_Back l R p e below s args y 3 8 (PreOf R mc ms Pc) (PostOf Qc mc ms free) (vx_Post XC mc ms free) := by
  obtain ⟨hrc, hrs, hfr, hlo, hws, hcw, -, hini, -⟩ := cb
  exact vx_back (bytes := bytes) (maxL := maxL) (ret := ret) hM hbl hrc hrs hfr hlo hws hcw (fun a' U hW => word_at hW (Or.inl (by first | rfl | simp [Cond.onTables, Cond.keeps, Cond.steady])) hini)
theorem vx_runV (S : CallFix p m c cc nL s args Ts own) (hM : vx_Met l y ws rm Pc Qc XC mc ms free) (cw : CallW R s args own C index y bytes maxL ret ws rm mc ms n) (hp : PreV s H C b Pc As)
    (hg : g.method = m) (hn : As.length = n) (hsize : g.locals.size = nL) (hstack : g.stack = As.reverse ++ .ref b :: rest) (hW : 2 * g.monitorRoom + (rest.map fun v => v.category).sum ≤ 8) (hdg : decode cc g.pc = .ok (.invokevirtual index, 3)) (hf : cells + mc ≤ R.cells ∧ slots + ms ≤ R.slots) :
    vx_Run p l e R s m args below meth c H locs cells slots mc ms g rest (Qc (Value.ref b :: As).toArray) XC free := by
  have hK : vx_Back l R p e below s args y 3 8 (PreOf R mc ms Pc) (PostOf Qc mc ms free) (vx_Post XC mc ms free) := vx_callBack cw.1 hM hp.1
  obtain ⟨⟨-, -, -, -, -, -, hcode, -, hy, hlen, hl⟩, hin, hse⟩ := cw
  obtain ⟨hx, hb, hml, ho, -⟩ := S
  obtain ⟨-, ⟨cellB, hcB, hoB, hclB⟩, hPc⟩ := hp
  intro T hT X
  rcases vx_callV X hx (C := C) (bytes := bytes) (maxL := maxL) (ret := ret) ho hl hin hse hcode hy hK (by rw [hT]; exact hcB) hoB hclB hg (hsize.trans hml.symm) (argsL := As) (rest := rest) (fun sig h => hn.trans (hlen sig h)) hstack hW (by rw [hb]; exact hdg)
    (fun vm₁ hW₁ => ⟨hf.1, hf.2, hPc (T.setVm vm₁) hT hW₁⟩) with ⟨v, vm₁, ⟨U', l2, c2, s2⟩, hW₁, X', ⟨g', mk, t, L, e1, e2, hq, h1, hL, h2, h3⟩, st⟩ | ⟨q, vm₁, ⟨U', l2, c2, s2⟩, hW₁, X', ⟨g', mk, t, L, E, ce, e1, e2, hq, hce, hcv, hcl, h1, hL, h2, h3⟩, st⟩
  · dsimp only [Pt.U, Pt.locs, Pt.cells, Pt.slots] at X' e1 e2 h1 h2 h3 st
    subst h1; subst h2; subst h3
    exact Or.inl ⟨v, (T.setVm vm₁).calling g' mk (Value.ref b :: As).toArray, t, U', L, hT, X', hL, e1, e2, hq, st⟩
  · dsimp only [Pt.U, Pt.locs, Pt.cells, Pt.slots] at X' e1 e2 h1 h2 h3 st hcl
    subst h1; subst h2; subst h3
    exact Or.inr ⟨q, (T.setVm vm₁).calling g' mk (Value.ref b :: As).toArray, t, U', L, E, ce, hT, X', hL, e1, e2, hq, hce, hcv, vx_cls hW₁ hcl, st⟩
theorem vx_runS (S : CallFix p m c cc nL s args Ts own) (hM : vx_Met l y ws rm Pc Qc XC mc ms free) (cw : CallB R s args own index y bytes maxL ret ws rm mc ms n ∧ (Cond.static y).before args s = true) (hp : PreS s H Pc As)
    (hg : g.method = m) (hn : As.length = n) (hsize : g.locals.size = nL) (hstack : g.stack = As.reverse ++ rest) (hW : 2 * g.monitorRoom + (rest.map fun v => v.category).sum ≤ 8) (hdg : decode cc g.pc = .ok (.invokestatic index, 3)) (hf : cells + mc ≤ R.cells ∧ slots + ms ≤ R.slots) :
    vx_Run p l e R s m args below meth c H locs cells slots mc ms g rest (Qc As.toArray) XC free := by
  have hK : vx_Back l R p e below s args y 3 8 (PreOf R mc ms Pc) (PostOf Qc mc ms free) (vx_Post XC mc ms free) := vx_callBack cw.1 hM hp.1
  obtain ⟨⟨-, -, -, -, -, -, hcode, hini, hy, hlen, hl⟩, hstt⟩ := cw
  obtain ⟨hx, hb, hml, ho, -⟩ := S
  intro T hT X
  rcases vx_callS X hx (bytes := bytes) (maxL := maxL) (ret := ret) ho hl hstt hini hcode hy hK hg (hsize.trans hml.symm) (argsL := As) (rest := rest) (fun sig h => hn.trans (hlen sig h)) hstack hW (by rw [hb]; exact hdg)
    (fun vm₁ hW₁ => ⟨hf.1, hf.2, hp.2 (T.setVm vm₁) hT hW₁⟩) with ⟨v, vm₁, ⟨U', l2, c2, s2⟩, hW₁, X', ⟨g', mk, t, L, e1, e2, hq, h1, hL, h2, h3⟩, st⟩ | ⟨q, vm₁, ⟨U', l2, c2, s2⟩, hW₁, X', ⟨g', mk, t, L, E, ce, e1, e2, hq, hce, hcv, hcl, h1, hL, h2, h3⟩, st⟩
  · dsimp only [Pt.U, Pt.locs, Pt.cells, Pt.slots] at X' e1 e2 h1 h2 h3 st
    subst h1; subst h2; subst h3
    exact Or.inl ⟨v, (T.setVm vm₁).calling g' mk As.toArray, t, U', L, hT, X', hL, e1, e2, hq, st⟩
  · dsimp only [Pt.U, Pt.locs, Pt.cells, Pt.slots] at X' e1 e2 h1 h2 h3 st hcl
    subst h1; subst h2; subst h3
    exact Or.inr ⟨q, (T.setVm vm₁).calling g' mk As.toArray, t, U', L, E, ce, hT, X', hL, e1, e2, hq, hce, hcv, vx_cls hW₁ hcl, st⟩
end Runs
section Rows
variable {p : Program} {l : Launch} {e : Env} {R : Room} {s : State} {m : MethodId} {args : Array Value} {below : List Frame} {meth : Method} {c : Code} {H : Heap} {locs : List Loc} {cells slots : Nat} {Q : State → Prop}
variable {mc ms : Nat} {free : Addr → Prop} {A0 A1 : Nat → Prop} {H0 : Heap} {a : Array Value} {pc : Nat} {ls : Array Slot} {st0 rest : List Value}
theorem vx_keep {st₀ t T' : State} {L : List Loc} (h0 : st₀.heap = H) (e1 : T'.heap = t.heap) (hS : va_S A0 H0 H locs) (hA : ∀ q, q < H.size → A1 q → A0 q) (hf : ∀ q, free q → A0 q) (hL : ∀ q ∈ L, free q.base) (hF : va_F A1 st₀ t) :
    H.size ≤ T'.heap.size ∧ (∀ q : Nat, q < H.size → ¬ A1 q → T'.heap[q]? = H[q]?) ∧ va_S A0 H0 T'.heap (locs ++ L) := by
  obtain ⟨hz, hk⟩ := hF
  rw [h0] at hz hk
  exact ⟨by rw [e1]; exact hz, fun q h1 h2 => by rw [e1]; exact hk q h1 h2,
    ⟨Nat.le_trans hS.1 (by rw [e1]; exact hz), fun q h1 h2 => by rw [e1, hk q (Nat.lt_of_lt_of_le h1 hS.1) (fun z => h2 (hA q (Nat.lt_of_lt_of_le h1 hS.1) z))]; exact hS.2.1 q h1 h2, fun q hq => by
      rcases List.mem_append.mp hq with h | h
      · exact hS.2.2 q h
      · exact hf _ (hL q h)⟩⟩
theorem vx_calli {S SX : Type} {post : Int32 → S → Prop} {px : SX → Prop} {B : S → State → Prop} {BX : String → SX → State → Prop} {AX : Nat → Prop} (hr : vx_Run p l e R s m args below meth c H locs cells slots mc ms (F0 m pc ls st0) rest (va_Qi post B A1 a) (vx_X px BX AX) free) (hS : va_S A0 H0 H locs) (hA : ∀ q, q < H.size → A1 q → A0 q) (hf : ∀ q, free q → A0 q) (hAX : ∀ q, q < H.size → AX q → A0 q)
    (kx : ∀ (E : String) (ce : Cell) (q9 : Addr) (u : SX) (t : State) (H1 : Heap) (locs1 : List Loc), t.heap = H1 → s.vm.Alike t.vm → px u → BX E u t → H.size ≤ H1.size → (∀ q : Nat, q < H.size → ¬ AX q → H1[q]? = H[q]?) → va_S A0 H0 H1 locs1 → H1[q9]? = some ce → ce.vm = .none → s.vm.findClass E = some ce.cls → vx_W p l e R s m args below meth c H1 locs1 (cells + mc) (slots + ms) Q (F0 m pc ls rest) q9)
    (kk : ∀ (r : Int32) (u : S) (t : State) (H1 : Heap) (locs1 : List Loc), t.heap = H1 → s.vm.Alike t.vm → post r u → B u t → H.size ≤ H1.size → (∀ q : Nat, q < H.size → ¬ A1 q → H1[q]? = H[q]?) → va_S A0 H0 H1 locs1 → W p l e R s m args below meth c H1 locs1 (cells + mc) (slots + ms) Q (F0 m (pc + 3) ls (.int r :: rest))) : W p l e R s m args below meth c H locs cells slots Q (F0 m pc ls st0) := by
  intro T hT X
  rcases hr T hT X with ⟨v, st₀, t, T', L, h0, X', hL, e1, e2, ⟨⟨r, u, hv, hp, hb⟩, hF⟩, st⟩ | ⟨q, st₀, t, T', L, E, ce, h0, X', hL, e1, e2, ⟨u, hp, hb, hF⟩, hce, hcv, hcl, st⟩
  · cases hv
    obtain ⟨k1, k2, k3⟩ := vx_keep h0 e1 hS hA hf hL hF
    obtain ⟨t2, a1, b1⟩ := kk r u t T'.heap (locs ++ L) e1.symm (by rw [← e2]; exact X'.warmed.alike) hp hb k1 k2 k3 T' rfl X'
    exact ⟨t2, st t2 a1, b1⟩
  · obtain ⟨k1, k2, k3⟩ := vx_keep h0 e1 hS hAX hf hL hF
    obtain ⟨t2, a1, b1⟩ := kx E ce q u t T'.heap (locs ++ L) e1.symm (by rw [← e2]; exact X'.warmed.alike) hp hb k1 k2 k3 (by rw [e1]; exact hce) hcv hcl T' rfl X'
    exact ⟨t2, st.trans a1, b1⟩
theorem vx_calll {S SX : Type} {post : Int64 → S → Prop} {px : SX → Prop} {B : S → State → Prop} {BX : String → SX → State → Prop} {AX : Nat → Prop} (hr : vx_Run p l e R s m args below meth c H locs cells slots mc ms (F0 m pc ls st0) rest (va_Ql post B A1 a) (vx_X px BX AX) free) (hS : va_S A0 H0 H locs) (hA : ∀ q, q < H.size → A1 q → A0 q) (hf : ∀ q, free q → A0 q) (hAX : ∀ q, q < H.size → AX q → A0 q)
    (kx : ∀ (E : String) (ce : Cell) (q9 : Addr) (u : SX) (t : State) (H1 : Heap) (locs1 : List Loc), t.heap = H1 → s.vm.Alike t.vm → px u → BX E u t → H.size ≤ H1.size → (∀ q : Nat, q < H.size → ¬ AX q → H1[q]? = H[q]?) → va_S A0 H0 H1 locs1 → H1[q9]? = some ce → ce.vm = .none → s.vm.findClass E = some ce.cls → vx_W p l e R s m args below meth c H1 locs1 (cells + mc) (slots + ms) Q (F0 m pc ls rest) q9)
    (kk : ∀ (r : Int64) (u : S) (t : State) (H1 : Heap) (locs1 : List Loc), t.heap = H1 → s.vm.Alike t.vm → post r u → B u t → H.size ≤ H1.size → (∀ q : Nat, q < H.size → ¬ A1 q → H1[q]? = H[q]?) → va_S A0 H0 H1 locs1 → W p l e R s m args below meth c H1 locs1 (cells + mc) (slots + ms) Q (F0 m (pc + 3) ls (.long r :: rest))) : W p l e R s m args below meth c H locs cells slots Q (F0 m pc ls st0) := by
  intro T hT X
  rcases hr T hT X with ⟨v, st₀, t, T', L, h0, X', hL, e1, e2, ⟨⟨r, u, hv, hp, hb⟩, hF⟩, st⟩ | ⟨q, st₀, t, T', L, E, ce, h0, X', hL, e1, e2, ⟨u, hp, hb, hF⟩, hce, hcv, hcl, st⟩
  · cases hv
    obtain ⟨k1, k2, k3⟩ := vx_keep h0 e1 hS hA hf hL hF
    obtain ⟨t2, a1, b1⟩ := kk r u t T'.heap (locs ++ L) e1.symm (by rw [← e2]; exact X'.warmed.alike) hp hb k1 k2 k3 T' rfl X'
    exact ⟨t2, st t2 a1, b1⟩
  · obtain ⟨k1, k2, k3⟩ := vx_keep h0 e1 hS hAX hf hL hF
    obtain ⟨t2, a1, b1⟩ := kx E ce q u t T'.heap (locs ++ L) e1.symm (by rw [← e2]; exact X'.warmed.alike) hp hb k1 k2 k3 (by rw [e1]; exact hce) hcv hcl T' rfl X'
    exact ⟨t2, st.trans a1, b1⟩
theorem vx_callf {S SX : Type} {post : UInt32 → S → Prop} {px : SX → Prop} {B : S → State → Prop} {BX : String → SX → State → Prop} {AX : Nat → Prop} (hr : vx_Run p l e R s m args below meth c H locs cells slots mc ms (F0 m pc ls st0) rest (va_Qf post B A1 a) (vx_X px BX AX) free) (hS : va_S A0 H0 H locs) (hA : ∀ q, q < H.size → A1 q → A0 q) (hf : ∀ q, free q → A0 q) (hAX : ∀ q, q < H.size → AX q → A0 q)
    (kx : ∀ (E : String) (ce : Cell) (q9 : Addr) (u : SX) (t : State) (H1 : Heap) (locs1 : List Loc), t.heap = H1 → s.vm.Alike t.vm → px u → BX E u t → H.size ≤ H1.size → (∀ q : Nat, q < H.size → ¬ AX q → H1[q]? = H[q]?) → va_S A0 H0 H1 locs1 → H1[q9]? = some ce → ce.vm = .none → s.vm.findClass E = some ce.cls → vx_W p l e R s m args below meth c H1 locs1 (cells + mc) (slots + ms) Q (F0 m pc ls rest) q9)
    (kk : ∀ (r : UInt32) (u : S) (t : State) (H1 : Heap) (locs1 : List Loc), t.heap = H1 → s.vm.Alike t.vm → post r u → B u t → H.size ≤ H1.size → (∀ q : Nat, q < H.size → ¬ A1 q → H1[q]? = H[q]?) → va_S A0 H0 H1 locs1 → W p l e R s m args below meth c H1 locs1 (cells + mc) (slots + ms) Q (F0 m (pc + 3) ls (.float r :: rest))) : W p l e R s m args below meth c H locs cells slots Q (F0 m pc ls st0) := by
  intro T hT X
  rcases hr T hT X with ⟨v, st₀, t, T', L, h0, X', hL, e1, e2, ⟨⟨r, u, hv, hp, hb⟩, hF⟩, st⟩ | ⟨q, st₀, t, T', L, E, ce, h0, X', hL, e1, e2, ⟨u, hp, hb, hF⟩, hce, hcv, hcl, st⟩
  · cases hv
    obtain ⟨k1, k2, k3⟩ := vx_keep h0 e1 hS hA hf hL hF
    obtain ⟨t2, a1, b1⟩ := kk r u t T'.heap (locs ++ L) e1.symm (by rw [← e2]; exact X'.warmed.alike) hp hb k1 k2 k3 T' rfl X'
    exact ⟨t2, st t2 a1, b1⟩
  · obtain ⟨k1, k2, k3⟩ := vx_keep h0 e1 hS hAX hf hL hF
    obtain ⟨t2, a1, b1⟩ := kx E ce q u t T'.heap (locs ++ L) e1.symm (by rw [← e2]; exact X'.warmed.alike) hp hb k1 k2 k3 (by rw [e1]; exact hce) hcv hcl T' rfl X'
    exact ⟨t2, st.trans a1, b1⟩
theorem vx_calld {S SX : Type} {post : UInt64 → S → Prop} {px : SX → Prop} {B : S → State → Prop} {BX : String → SX → State → Prop} {AX : Nat → Prop} (hr : vx_Run p l e R s m args below meth c H locs cells slots mc ms (F0 m pc ls st0) rest (va_Qd post B A1 a) (vx_X px BX AX) free) (hS : va_S A0 H0 H locs) (hA : ∀ q, q < H.size → A1 q → A0 q) (hf : ∀ q, free q → A0 q) (hAX : ∀ q, q < H.size → AX q → A0 q)
    (kx : ∀ (E : String) (ce : Cell) (q9 : Addr) (u : SX) (t : State) (H1 : Heap) (locs1 : List Loc), t.heap = H1 → s.vm.Alike t.vm → px u → BX E u t → H.size ≤ H1.size → (∀ q : Nat, q < H.size → ¬ AX q → H1[q]? = H[q]?) → va_S A0 H0 H1 locs1 → H1[q9]? = some ce → ce.vm = .none → s.vm.findClass E = some ce.cls → vx_W p l e R s m args below meth c H1 locs1 (cells + mc) (slots + ms) Q (F0 m pc ls rest) q9)
    (kk : ∀ (r : UInt64) (u : S) (t : State) (H1 : Heap) (locs1 : List Loc), t.heap = H1 → s.vm.Alike t.vm → post r u → B u t → H.size ≤ H1.size → (∀ q : Nat, q < H.size → ¬ A1 q → H1[q]? = H[q]?) → va_S A0 H0 H1 locs1 → W p l e R s m args below meth c H1 locs1 (cells + mc) (slots + ms) Q (F0 m (pc + 3) ls (.double r :: rest))) : W p l e R s m args below meth c H locs cells slots Q (F0 m pc ls st0) := by
  intro T hT X
  rcases hr T hT X with ⟨v, st₀, t, T', L, h0, X', hL, e1, e2, ⟨⟨r, u, hv, hp, hb⟩, hF⟩, st⟩ | ⟨q, st₀, t, T', L, E, ce, h0, X', hL, e1, e2, ⟨u, hp, hb, hF⟩, hce, hcv, hcl, st⟩
  · cases hv
    obtain ⟨k1, k2, k3⟩ := vx_keep h0 e1 hS hA hf hL hF
    obtain ⟨t2, a1, b1⟩ := kk r u t T'.heap (locs ++ L) e1.symm (by rw [← e2]; exact X'.warmed.alike) hp hb k1 k2 k3 T' rfl X'
    exact ⟨t2, st t2 a1, b1⟩
  · obtain ⟨k1, k2, k3⟩ := vx_keep h0 e1 hS hAX hf hL hF
    obtain ⟨t2, a1, b1⟩ := kx E ce q u t T'.heap (locs ++ L) e1.symm (by rw [← e2]; exact X'.warmed.alike) hp hb k1 k2 k3 (by rw [e1]; exact hce) hcv hcl T' rfl X'
    exact ⟨t2, st.trans a1, b1⟩
theorem vx_callv {S SX : Type} {post : S → Prop} {px : SX → Prop} {B : S → State → Prop} {BX : String → SX → State → Prop} {AX : Nat → Prop} (hr : vx_Run p l e R s m args below meth c H locs cells slots mc ms (F0 m pc ls st0) rest (va_Qv post B A1 a) (vx_X px BX AX) free) (hS : va_S A0 H0 H locs) (hA : ∀ q, q < H.size → A1 q → A0 q) (hf : ∀ q, free q → A0 q) (hAX : ∀ q, q < H.size → AX q → A0 q)
    (kx : ∀ (E : String) (ce : Cell) (q9 : Addr) (u : SX) (t : State) (H1 : Heap) (locs1 : List Loc), t.heap = H1 → s.vm.Alike t.vm → px u → BX E u t → H.size ≤ H1.size → (∀ q : Nat, q < H.size → ¬ AX q → H1[q]? = H[q]?) → va_S A0 H0 H1 locs1 → H1[q9]? = some ce → ce.vm = .none → s.vm.findClass E = some ce.cls → vx_W p l e R s m args below meth c H1 locs1 (cells + mc) (slots + ms) Q (F0 m pc ls rest) q9)
    (kk : ∀ (u : S) (t : State) (H1 : Heap) (locs1 : List Loc), t.heap = H1 → s.vm.Alike t.vm → post u → B u t → H.size ≤ H1.size → (∀ q : Nat, q < H.size → ¬ A1 q → H1[q]? = H[q]?) → va_S A0 H0 H1 locs1 → W p l e R s m args below meth c H1 locs1 (cells + mc) (slots + ms) Q (F0 m (pc + 3) ls (rest))) : W p l e R s m args below meth c H locs cells slots Q (F0 m pc ls st0) := by
  intro T hT X
  rcases hr T hT X with ⟨v, st₀, t, T', L, h0, X', hL, e1, e2, ⟨⟨u, hv, hp, hb⟩, hF⟩, st⟩ | ⟨q, st₀, t, T', L, E, ce, h0, X', hL, e1, e2, ⟨u, hp, hb, hF⟩, hce, hcv, hcl, st⟩
  · cases hv
    obtain ⟨k1, k2, k3⟩ := vx_keep h0 e1 hS hA hf hL hF
    obtain ⟨t2, a1, b1⟩ := kk u t T'.heap (locs ++ L) e1.symm (by rw [← e2]; exact X'.warmed.alike) hp hb k1 k2 k3 T' rfl X'
    exact ⟨t2, st t2 a1, b1⟩
  · obtain ⟨k1, k2, k3⟩ := vx_keep h0 e1 hS hAX hf hL hF
    obtain ⟨t2, a1, b1⟩ := kx E ce q u t T'.heap (locs ++ L) e1.symm (by rw [← e2]; exact X'.warmed.alike) hp hb k1 k2 k3 (by rw [e1]; exact hce) hcv hcl T' rfl X'
    exact ⟨t2, st.trans a1, b1⟩
/-- caught by the row x of this method's table; the rows ahead don't take it -/
theorem vx_catch {own name : String} {E : String} {ce : Cell} {q : Addr} (hown : s.vm.findClass own = some m.cls) (pre : List ExceptionTableEntry) (x : ExceptionTableEntry) (suf : List ExceptionTableEntry) (hsplit : c.exceptionTable.toList = pre ++ x :: suf)
    (hpass : ∀ z ∈ pre, covers z pc = false ∨ (z.catchType ≠ 0 ∧ ∃ nm : String, (Cond.classLink own z.catchType nm).before args s = true ∧ va_Nc E nm s)) (hx : covers x pc = true) (h0 : x.catchType ≠ 0)
    (hlink : (Cond.classLink own x.catchType name).before args s = true) (hcast : (Cond.castable E name).before args s = true) (hcell : H[q]? = some ce) (hv : ce.vm = .none) (hcl : s.vm.findClass E = some ce.cls)
    (kk : W p l e R s m args below meth c H locs cells slots Q (F0 m x.handlerPc ls [.ref q])) : vx_W p l e R s m args below meth c H locs cells slots Q (F0 m pc ls rest) q := by
  intro T hT X
  have hpl : e.platform.magicAccessors = ({} : Platform).magicAccessors := by rw [X.admits.platform]
  obtain ⟨c3, c4, hc3, hc4, hasg⟩ := Cond.castable_spec hcast
  cases Option.some.inj (hc3.symm.trans hcl)
  obtain ⟨c5, hc5, hcl5⟩ := Cond.classLink_spec hown hlink e.platform hpl
  cases Option.some.inj (hc4.symm.trans hc5)
  obtain ⟨vm', X', st⟩ := X.thenCaughtThrough q (g := F0 m pc ls rest) rfl (Steps.refl _) (by rw [hT]; exact hcell) (by rw [hv]; rfl) (by obtain ⟨k9, h9, -⟩ := Vm.findClass_spec hcl; exact ⟨k9, h9⟩) pre x suf hsplit
    (fun z hz => by
      rcases hpass z hz with h | ⟨hz0, nm, hl1, hn1⟩
      · exact Or.inl h
      · obtain ⟨c6, hc6, hcl6⟩ := Cond.classLink_spec hown hl1 e.platform hpl
        obtain ⟨a8, b8, h1, h2, h3⟩ := hn1
        cases Option.some.inj (h1.symm.trans hcl)
        cases Option.some.inj (h2.symm.trans hc6)
        exact Or.inr ⟨hz0, _, hcl6, h3⟩) hx (Or.inr ⟨h0, c4, hcl5, hasg⟩)
  obtain ⟨t, a1, b1⟩ := kk (T.setVm vm') hT X'
  exact ⟨t, st.trans a1, b1⟩
end Rows
section Ends
variable {p : Program} {l : Launch} {e : Env} {R : Room} {s : State} {m : MethodId} {args : Array Value} {below : List Frame} {meth : Method} {c : Code} {H : Heap} {locs : List Loc} {cells slots : Nat} {Q : State → Prop}
variable {mc ms : Nat} {free : Addr → Prop} {A0 A1 : Nat → Prop} {H0 : Heap} {a : Array Value} {ls : Array Slot} {st0 rest : List Value}
variable {Qc : Array Value → State → Outcome → State → Prop} {XC : String → State → State → Prop}
/-- what a body that may throw owes at its end -/
def vx_MQ (below : List Frame) (Qc : Array Value → State → Outcome → State → Prop) (XC : String → State → State → Prop) (a : Array Value) (s : State) (mc ms : Nat) (free : Addr → Prop) : State → Prop := fun t =>
  ∃ o, t.status = .running ∧ Ended t below o ∧ vx_Q Qc XC mc ms free a s o t
theorem vx_ret {g : JFrame} {mc ms : Nat} (k : W p l e R s m args below meth c H locs cells slots (MQ below Qc args s mc ms free) g) : W p l e R s m args below meth c H locs cells slots (vx_MQ below Qc XC args s mc ms free) g := by
  intro T hT X
  obtain ⟨t, a1, o, b1, b2, b3, b4⟩ := k T hT X
  exact ⟨t, a1, o, b1, b2, Or.inl ⟨b3, b4⟩⟩
/-- not caught here: it goes on to the caller -/
theorem vx_widen {g : JFrame} {q : Addr} {k n : Nat} (h1 : cells ≤ k) (h2 : slots ≤ n) (kk : vx_W p l e R s m args below meth c H locs k n Q g q) : vx_W p l e R s m args below meth c H locs cells slots Q g q := fun T hT X => kk T hT (stand_widen X h1 h2)
theorem vx_out {pc : Nat} {E : String} {ce : Cell} {q : Addr} {mc ms : Nat} (hout : ∀ x ∈ c.exceptionTable.toList, covers x pc = false) (hlocks : meth.locks = false) (hcell : H[q]? = some ce) (hv : ce.vm = .none) (hcl : s.vm.findClass E = some ce.cls)
    (hx : ∀ t : State, t.heap = H → s.vm.Alike t.vm → XC E s t) (hf : ∀ z ∈ locs, free z.base) (hc : cells ≤ mc) (hs : slots ≤ ms) :
    vx_W p l e R s m args below meth c H locs cells slots (vx_MQ below Qc XC args s mc ms free) (F0 m pc ls rest) q := by
  intro T hT X
  obtain ⟨st1, hrun, hend, hW, hsm⟩ := X.leaveThrown q (g := F0 m pc ls rest) rfl rfl rfl hout hlocks
  have hcell9 : (T.setFrames (.throwing q :: below)).heap[q]? = some ce := by
    show T.heap[q]? = some ce
    rw [hT]; exact hcell
  exact ⟨_, st1, .threw q, hrun, hend, Or.inr ⟨q, rfl, E, ce, locs, hx _ hT hW.alike, hcell9, hv, hcl, hW, hsm.mono hc hs, hf⟩⟩
theorem vx_frame {U : State} {k n : Nat} (h : s.sameButNew ({ U with vm := s.vm } : State) locs k n) : s.heap.size ≤ U.heap.size ∧ ∀ q : Nat, q < s.heap.size → (∀ z ∈ locs, z.base ≠ q) → U.heap[q]? = s.heap[q]? := by
  obtain ⟨-, h2, -, -, -, h6⟩ := h
  refine ⟨h2, fun q hq hz => ?_⟩
  obtain ⟨c9, e1, e2, e3, e4⟩ := h6 q _ (Array.getElem?_eq_getElem hq)
  have hs : c9.slots = (s.heap[q]).slots := Array.ext_getElem? fun i => e4 i fun hm => hz _ hm rfl
  have h9 : c9 = s.heap[q] := by
    rw [hs] at e2
    exact e2
  have e5 : U.heap[q]? = some c9 := e1
  rw [e5, h9, Array.getElem?_eq_getElem hq]
/-- the words of a throw but the four that speak of the heap -/
def vx_no (w : Cond) : Bool := decide (w ≠ .isRef (.static Bundle.tN "UNASSIGNED_STACK" Bundle.steD)) && decide (w ≠ .isRef (.static Bundle.tN "SUPPRESSED_SENTINEL" Bundle.listD)) && decide (w ≠ .laysStatic Bundle.tN "UNASSIGNED_STACK" Bundle.steD) && decide (w ≠ .laysStatic Bundle.tN "SUPPRESSED_SENTINEL" Bundle.listD)
def vx_at0 (own : String) (ic : Nat) (X : String) (names : List String) : List Cond := (Bundle.ownAtoms0 own ic X names).filter vx_no
def vx_atS (own : String) (ic : Nat) (X : String) (names : List String) : List Cond := (Bundle.ownAtoms own ic X names).filter vx_no
/-- a word that the tables alone decide, or a good one -/
def vx_ot (w : Cond) : Bool := w.onTables || goodWord w
theorem vx_ot_at {args a' : Array Value} {s U : State} {w : Cond} (hW : s.WarmedH U.vm) (hvm : s.vm = U.vm) (hg : vx_ot w = true) (h : w.before args s = true) : w.before a' U = true := by
  simp only [vx_ot, Bool.or_eq_true] at hg
  rcases hg with hg | hg
  · exact va_tabs hg hvm h
  · exact word_at hW (good_of_word hg) h
/-- a list's words: the good ones out of the method's own list, the others by premises of their own -/
theorem vx_hat {args : Array Value} {s : State} {L B : List Cond} (h1 : ∀ w ∈ L.filter goodWord, w.before args s = true) (h2 : ∀ w ∈ L.filter (fun w => !goodWord w), w ∈ B) (h3 : ∀ w ∈ B, w.before args s = true) : ∀ w ∈ L, w.before args s = true := by
  intro w hw
  by_cases g : goodWord w = true
  · exact h1 w (List.mem_filter.mpr ⟨hw, g⟩)
  · refine h3 w (h2 w (List.mem_filter.mpr ⟨hw, ?_⟩))
    show (!goodWord w) = true
    cases hgw : goodWord w
    · rfl
    · exact absurd hgw g
theorem vx_c {args : Array Value} {s : State} {w : Cond} {B : List Cond} (h : w.before args s = true) (t : ∀ w ∈ B, w.before args s = true) : ∀ w' ∈ w :: B, w'.before args s = true := fun w' h' => (List.mem_cons.mp h').elim (fun e => by rw [e]; exact h) (t w')
theorem vx_n {args : Array Value} {s : State} : ∀ w ∈ ([] : List Cond), w.before args s = true := fun _ h => nomatch h
theorem vx_own {args : Array Value} {s : State} {L : List Cond} (h1 : ∀ w ∈ L.filter vx_no, w.before args s = true)
    (hU : (Cond.isRef (.static Bundle.tN "UNASSIGNED_STACK" Bundle.steD)).before args s = true) (hN : (Cond.isRef (.static Bundle.tN "SUPPRESSED_SENTINEL" Bundle.listD)).before args s = true)
    (lU : (Cond.laysStatic Bundle.tN "UNASSIGNED_STACK" Bundle.steD).before args s = true) (lN : (Cond.laysStatic Bundle.tN "SUPPRESSED_SENTINEL" Bundle.listD).before args s = true) : ∀ w ∈ L, w.before args s = true := by
  intro w hw
  by_cases e1 : w = .isRef (.static Bundle.tN "UNASSIGNED_STACK" Bundle.steD)
  · rw [e1]; exact hU
  · by_cases e2 : w = .isRef (.static Bundle.tN "SUPPRESSED_SENTINEL" Bundle.listD)
    · rw [e2]; exact hN
    · by_cases e3 : w = .laysStatic Bundle.tN "UNASSIGNED_STACK" Bundle.steD
      · rw [e3]; exact lU
      · by_cases e4 : w = .laysStatic Bundle.tN "SUPPRESSED_SENTINEL" Bundle.listD
        · rw [e4]; exact lN
        · exact h1 w (List.mem_filter.mpr ⟨hw, by unfold vx_no; rw [decide_eq_true e1, decide_eq_true e2, decide_eq_true e3, decide_eq_true e4]; rfl⟩)
/-- where a static field lies, its class's statics cell in H -/
def vx_L (C n d : String) (A : Nat → Prop) (U : State) (H : Heap) : Prop := ∃ (c : ClassId) (k : Class) (i : Nat) (f : Field) (a : Nat) (cell : Cell), U.vm.findClass C = some c ∧ U.fieldFound? C n d = some (c, k, i, f) ∧ f.isStatic = true ∧ k.statics = some a ∧ H[a]? = some cell ∧ cell.vm.isStatics = true ∧ cell.cls = c ∧ f.slot < cell.slots.size ∧ k.staticTypes[f.slot]? = some f.type ∧ ¬ A a
theorem vx_L.moved {C n d : String} {A : Nat → Prop} {u U : State} {H : Heap} (hvm : u.vm.Alike U.vm) (h : vx_L C n d A u H) : vx_L C n d A U H := by
  obtain ⟨c, k, i, f, a, cell, h1, h2, h3, h4, h5, h6, h7, h8, h9, h10⟩ := h
  obtain ⟨k', hi', he⟩ := State.fieldFound?_setVm hvm h2
  exact ⟨c, k', i, f, a, cell, by rw [hvm.findClass]; exact h1, hi', h3, by rw [he]; exact h4, h5, h6, h7, h8, by rw [he]; exact h9, h10⟩
theorem vx_L.kept {C n d : String} {A : Nat → Prop} {U : State} {H H1 : Heap} (h : vx_L C n d A U H) (hq : ∀ a : Nat, a < H.size → ¬ A a → H1[a]? = H[a]?) : vx_L C n d A U H1 := by
  obtain ⟨c, k, i, f, a, cell, h1, h2, h3, h4, h5, h6, h7, h8, h9, h10⟩ := h
  exact ⟨c, k, i, f, a, cell, h1, h2, h3, h4, by rw [hq a (Array.getElem?_eq_some_iff.mp h5).1 h10]; exact h5, h6, h7, h8, h9, h10⟩
theorem vx_L.narrow {C n d : String} {A B : Nat → Prop} {U : State} {H : Heap} (h : vx_L C n d A U H) (hAB : ∀ q, B q → A q) : vx_L C n d B U H := by
  obtain ⟨c, k, i, f, a, cell, h1, h2, h3, h4, h5, h6, h7, h8, h9, h10⟩ := h
  exact ⟨c, k, i, f, a, cell, h1, h2, h3, h4, h5, h6, h7, h8, h9, fun z => h10 (hAB _ z)⟩
theorem vx_L.word {C n d : String} {A : Nat → Prop} {s : State} {args : Array Value} (h : vx_L C n d A s s.heap) : (Cond.laysStatic C n d).before args s = true := by
  obtain ⟨c, k, i, f, a, cell, h1, h2, h3, h4, h5, h6, h7, h8, h9, -⟩ := h
  show (Cond.laysStatic C n d).holds args s none s [] = true
  exact Cond.laysStatic_of h1 h2 h3 h4 h5 h6 h7 h8 h9
/-- .. and what it holds: null or some reference -/
def vx_Zq (C n d : String) (A : Nat → Prop) (U : State) (H : Heap) : Prop := va_Zq C n d A U H ∧ vx_L C n d A U H
theorem vx_Zq.moved {C n d : String} {A : Nat → Prop} {u U : State} {H : Heap} (hvm : u.vm.Alike U.vm) (h : vx_Zq C n d A u H) : vx_Zq C n d A U H := ⟨va_Zq.moved hvm h.1, vx_L.moved hvm h.2⟩
theorem vx_Zq.kept {C n d : String} {A : Nat → Prop} {U : State} {H H1 : Heap} (h : vx_Zq C n d A U H) (hq : ∀ a : Nat, a < H.size → ¬ A a → H1[a]? = H[a]?) : vx_Zq C n d A U H1 := ⟨va_Zq.kept h.1 hq, vx_L.kept h.2 hq⟩
theorem vx_Zq.narrow {C n d : String} {A B : Nat → Prop} {U : State} {H : Heap} (h : vx_Zq C n d A U H) (hAB : ∀ q, B q → A q) : vx_Zq C n d B U H := ⟨va_Zq.narrow h.1 hAB, vx_L.narrow h.2 hAB⟩
theorem vx_Zqof {args : Array Value} {s : State} {C n d : String} {A : Nat → Prop} (hl : (Cond.laysStatic C n d).before args s = true) (hini : (Cond.initialized C).before args s = true) (h : (Cond.isRef (.static C n d)).before args s = true) (hA : ∀ a : Nat, a < s.heap.size → ¬ A a) : vx_Zq C n d A s s.heap := by
  refine ⟨va_Zqof hl hini h hA, ?_⟩
  obtain ⟨c, k, i, f, a, cell, h1, h2, h3, h4, h5, h6, h7, h8, h9⟩ := Cond.laysStatic_spec hl
  exact ⟨c, k, i, f, a, cell, h1, h2, h3, h4, h5, h6, h7, h8, h9, hA a (Array.getElem?_eq_some_iff.mp h5).1⟩
theorem vx_isRef {C n d : String} {v : Value} {A : Nat → Prop} {s : State} {args : Array Value} (h : va_Z C n d v A s s.heap) (hv : v.isRef = true) : (Cond.isRef (.static C n d)).before args s = true := by
  obtain ⟨cf, kf, fi, f, a, cell, h1, h2, h3, h4, h5, h6, h7, -⟩ := h
  have he : (Term.static C n d).eval args s none [] s = some v := by
    simp [Term.eval, State.fieldNamed?, h1, h2, h4, h5, h6, h7]
  simp only [Cond.before, Cond.holds, Cond.value, he]
  cases v <;> simp_all [Value.isRef]
theorem vx_isRefq {C n d : String} {A : Nat → Prop} {s : State} {args : Array Value} (h : va_Zq C n d A s s.heap) : (Cond.isRef (.static C n d)).before args s = true := by
  rcases h with h | ⟨t, h⟩
  · exact vx_isRef h rfl
  · exact vx_isRef h rfl
/-- the same frame, seen from here: as if the method were called anew in this heap -/
theorem vx_rebase {T : State} (X : Stand p l e R s m args below meth c T locs cells slots) {R' : Room} (hf : R'.frames ≤ R.frames) (hl : R'.locals ≤ R.locals) (hc : cells + R'.cells ≤ R.cells) (hs : slots + R'.slots ≤ R.slots) :
    Stand p l e R' ((T.setVm s.vm).setFrames (.invoking m args :: below)) m args below meth c T [] 0 0 := by
  have htop : (T.setVm s.vm).topJava?.isSome := X.here.top
  have hF : ((T.setVm s.vm).setFrames (.invoking m args :: below)).frames = .invoking m args :: below := State.frames_setFrames _ (State.cur_lt_of_top htop)
  obtain ⟨g₀, hg0⟩ := Option.isSome_iff_exists.mp htop
  obtain ⟨r, hr⟩ := State.topJava?_eq_some.mp hg0
  have hl9 : e.platform.stackLimits (T.setVm s.vm).me = e.platform.stackLimits s.me := X.limits
  have hb9 : (T.setVm s.vm).me.stackBytes = s.me.stackBytes := X.bytes
  refine ⟨X.admits, X.cas, X.clock, hF, ?_, X.hears, X.method, X.code, X.here, X.tail, X.warmed, ?_, ?_, ?_⟩
  · have h := X.room
    have hU : ((T.setVm s.vm).setFrames (.invoking m args :: below)).localsInUse = s.localsInUse := by
      rw [State.localsInUse_invoking hF (meth := meth) (c := c) X.method X.code, State.localsInUse_invoking X.frames X.method X.code]
    simp only [State.hasRoom, Bool.and_eq_true, decide_eq_true_eq] at h ⊢
    obtain ⟨⟨⟨⟨h1, h2, h3, h4, h5, h6⟩, h7⟩, h8⟩, h9⟩ := h
    rw [X.frames, List.length_cons] at h2 h3
    have q1 := X.heapSize
    have q2 := X.used
    simp only [hF, hU, List.length_cons, State.stackLimits_setFrames, State.stackBytes_setFrames, hl9, hb9]
    refine ⟨⟨⟨⟨by omega, by omega, by omega, by omega, by omega, h6⟩, ?_⟩, ?_⟩, X.book⟩
    · show T.heap.size + R'.cells ≤ e.platform.maxCells
      omega
    · show T.slotsUsed + R'.slots ≤ e.platform.maxSlots
      omega
  · rw [State.stackLimits_setFrames]; rfl
  · rw [State.stackBytes_setFrames]; rfl
  · refine ⟨?_, Nat.le_refl _, Nat.le_refl _, ?_, ?_, fun a c9 h9 => ⟨c9, h9, rfl, rfl, fun _ _ => rfl⟩⟩
    · obtain ⟨t, ht, -⟩ := State.frames_cons hr
      show T.setVm s.vm = { ((T.setVm s.vm).setFrames (.invoking m args :: below)).setFrames (T.setVm s.vm).frames with heap := T.heap, slotsUsed := T.slotsUsed }
      rw [State.setFrames_setFrames, State.setFrames_self ht]
      rfl
    · show T.slotsUsed = T.slotsUsed + ((T.heap.toList.drop T.heap.size).map (·.slots.size)).sum
      rw [List.drop_eq_nil_of_le (Nat.le_of_eq Array.length_toList)]
      rfl
    · show ((T.heap.toList.drop T.heap.size).map (·.slots.size)).sum ≤ 0
      rw [List.drop_eq_nil_of_le (Nat.le_of_eq Array.length_toList)]
      exact Nat.le_refl _
/-- 'throw new E()': new; dup; invokespecial; athrow -/
theorem vx_throw0 {cc : ByteArray} {pc : Nat} (hexec : p.tables.exec = Jvm.exec) (hb : c.code = cc) (hl : l.stackTraces = false) {own cls : String} {names : List String} {ik ic mc ms : Nat} {A : Nat → Prop}
    (hown : s.vm.findClass own = some m.cls) (hcls : Bundle.fit cls = true) (hnames : ∀ n ∈ names, Bundle.fit n = true)
    (hk : (Cond.classLink own ik cls).before args s = true) (hini : (Cond.initialized cls).before args s = true) (hat : ∀ w ∈ vx_at0 own ic cls names, w.before args s = true)
    (hgood : ∀ w ∈ Cond.classLink own ik cls :: Cond.initialized cls :: vx_at0 own ic cls names, vx_ot w = true)
    (hU : vx_Zq Bundle.tN "UNASSIGNED_STACK" Bundle.steD A s s.heap) (hN : vx_Zq Bundle.tN "SUPPRESSED_SENTINEL" Bundle.listD A s s.heap) (hS : va_S A s.heap H locs) (hsize : ls.size = c.maxLocals)
    (d0 : decode cc pc = .ok (.new ik, 3)) (d3 : decode cc (pc + 3) = .ok (.dup, 1)) (d4 : decode cc (pc + 4) = .ok (.invokespecial ic, 3)) (d7 : decode cc (pc + 7) = .ok (.athrow, 1))
    (hout : ∀ x ∈ c.exceptionTable.toList, covers x (pc + 7) = false)
    (hRframes : names.length + 3 < R.frames) (hRlocals : (rest.map fun v => v.category).sum + (13 * (names.length + 1) + 42) ≤ R.locals) (hRcells : cells + 1 ≤ R.cells) (hRslots : slots + 6 ≤ R.slots) (hlocks : meth.locks = false)
    (hx : ∀ t : State, s.vm.Alike t.vm → H.size ≤ t.heap.size → (∀ q : Nat, q < H.size → t.heap[q]? = H[q]?) → XC cls s t)
    (hf : ∀ z ∈ locs, free z.base) (hc : cells + 1 ≤ mc) (hs : slots + 6 ≤ ms) :
    W p l e R s m args below meth c H locs cells slots (vx_MQ below Qc XC args s mc ms free) (F0 m pc ls rest) := by
  intro T hT X
  have htr : e.platform.stackTraces = false := (show e.platform.stackTraces = l.stackTraces by rw [X.admits.platform]).trans hl
  have Y := vx_rebase X (R' := { frames := R.frames, locals := R.locals, cells := 1, slots := 6 }) (Nat.le_refl _) (Nat.le_refl _) hRcells hRslots
  obtain ⟨s', hA⟩ : ∃ z, z = (T.setVm s.vm).setFrames (.invoking m args :: below) := ⟨_, rfl⟩
  rw [← hA] at Y
  have hvm : s'.vm = s.vm := by rw [hA]; rfl
  have hhp : s'.heap = H := by rw [hA]; exact hT
  have hW0 : s.WarmedH s'.vm := by rw [hvm]; exact State.WarmedH.refl s
  have hat' : ∀ w ∈ vx_at0 own ic cls names, w.before args s' = true := fun w hw => vx_ot_at hW0 hvm.symm (hgood w (List.mem_cons_of_mem _ (List.mem_cons_of_mem _ hw))) (hat w hw)
  have hk' : (Cond.classLink own ik cls).before args s' = true := vx_ot_at hW0 hvm.symm (hgood _ List.mem_cons_self) hk
  have hini' : (Cond.initialized cls).before args s' = true := vx_ot_at hW0 hvm.symm (hgood _ (List.mem_cons_of_mem _ List.mem_cons_self)) hini
  have hU' : vx_Zq Bundle.tN "UNASSIGNED_STACK" Bundle.steD A s' s'.heap := by rw [hhp]; exact vx_Zq.moved hW0.alike (hU.kept hS.2.1)
  have hN' : vx_Zq Bundle.tN "SUPPRESSED_SENTINEL" Bundle.listD A s' s'.heap := by rw [hhp]; exact vx_Zq.moved hW0.alike (hN.kept hS.2.1)
  have h : ∀ w ∈ Bundle.ownAtoms0 own ic cls names, w.before args s' = true := vx_own hat' (vx_isRefq hU'.1) (vx_isRefq hN'.1) hU'.2.word hN'.2.word
  have hown' : s'.vm.findClass own = some m.cls := by rw [hvm]; exact hown
  have hins : (Cond.instantiable cls 6).before args s' = true := h _ (by simp [Bundle.ownAtoms0])
  obtain ⟨vm₁, cX, kX, hfX, hkX, -, -, X₁, st1⟩ := Y.newCold hexec (own := own) (C := cls) (index := ik) (n := 6) hown' hk' hins hini'
    (g := F0 m pc ls rest) rfl (by rw [hb]; exact d0) (Nat.le_refl _) (Nat.le_refl _)
  generalize hT1 : (T.setVm vm₁).pushCell { cls := cX, slots := kX.instanceTypes.map defaultValue, vm := .none } = T1 at X₁ st1
  have hcat : (Value.ref T.heap.size).category = 1 := rfl
  have hcellA : T1.heap[T.heap.size]? = some (freshCell cX kX) := by rw [← hT1]; exact State.heap_pushCell_size _ _
  have d3' : decode c.code (pc + 3) = .ok (.dup, 1) := by rw [hb]; exact d3
  obtain ⟨U, hsteps, hrun, hend, hW, hsame, ce, hce, hO⟩ := X₁.ctorThrow0 hexec htr (own := own) (cls := cls) (names := names) (ic := ic) hown' hcls hnames h (fun x hx => nomatch hx) hfX hkX hcellA (by rw [hhp, hT]; exact Nat.le_refl _)
    (g := { method := m, pc := pc + 4, locals := ls, stack := .ref T.heap.size :: .ref T.heap.size :: rest, locked := none }) rfl hsize rfl rfl (rest := rest) rfl
    (by rw [hb]; exact d4) (by rw [hb]; exact d7) hout hRframes (by simp only [List.map_cons, List.sum_cons, hcat]; omega) hlocks
  obtain ⟨f1, f2⟩ := vx_frame hsame
  rw [hhp] at f1 f2
  have hWs : s.WarmedH U.vm := State.WarmedH.trans hW0 hW
  have hcl : s.vm.findClass cls = some ce.cls := by
    have h9 := hO.cls
    rw [hvm] at h9
    exact h9
  have hall : s.sameButNew ({ U with vm := s.vm } : State) locs mc ms := by
    subst hA
    obtain ⟨e1, e2⟩ := hsame
    rw [State.setFrames_setFrames] at e1
    have h2 : (T.setVm s.vm).sameButNew ({ U with vm := s.vm } : State) [] (0 + 1) (0 + 6) := ⟨e1, e2⟩
    have h3 := X.same.trans h2
    rw [List.append_nil] at h3
    exact h3.mono hc hs
  refine ⟨U, ?_, .threw T.heap.size, hrun, hend, Or.inr ⟨T.heap.size, rfl, cls, ce, locs, hx U hWs.alike f1 (fun q hq => f2 q hq (fun z hz => nomatch hz)), hce, hO.vm, hcl, hWs, hall, hf⟩⟩
  refine st1 _ ?_
  show Steps p.tables e below (T1.setTop { method := m, pc := pc + 3, locals := ls, stack := .ref T.heap.size :: rest, locked := none }) _
  jvm_step X₁.here [X₁.here.top, hexec, d3', Value.category]
  exact hsteps
/-- 'throw new E("text")': new; dup; ldc; invokespecial; athrow -/
theorem vx_throwS {cc : ByteArray} {pc : Nat} (hexec : p.tables.exec = Jvm.exec) (hb : c.code = cc) (hl : l.stackTraces = false) {own cls text : String} {names : List String} {ik is ic mc ms sa : Nat} {A : Nat → Prop}
    (hown : s.vm.findClass own = some m.cls) (hcls : Bundle.fit cls = true) (hnames : ∀ n ∈ names, Bundle.fit n = true)
    (hk : (Cond.classLink own ik cls).before args s = true) (hini : (Cond.initialized cls).before args s = true) (hstr : vk_R own is text sa s) (hat : ∀ w ∈ vx_atS own ic cls names, w.before args s = true)
    (hgood : ∀ w ∈ Cond.classLink own ik cls :: Cond.initialized cls :: vx_atS own ic cls names, vx_ot w = true)
    (hU : vx_Zq Bundle.tN "UNASSIGNED_STACK" Bundle.steD A s s.heap) (hN : vx_Zq Bundle.tN "SUPPRESSED_SENTINEL" Bundle.listD A s s.heap) (hS : va_S A s.heap H locs) (hsize : ls.size = c.maxLocals)
    (d0 : decode cc pc = .ok (.new ik, 3)) (d3 : decode cc (pc + 3) = .ok (.dup, 1)) (d4 : decode cc (pc + 4) = .ok (.ldc is, 2)) (d6 : decode cc (pc + 6) = .ok (.invokespecial ic, 3)) (d9 : decode cc (pc + 9) = .ok (.athrow, 1))
    (hout : ∀ x ∈ c.exceptionTable.toList, covers x (pc + 9) = false)
    (hRframes : names.length + 3 < R.frames) (hRlocals : (rest.map fun v => v.category).sum + (13 * (names.length + 1) + 43) ≤ R.locals) (hRcells : cells + 1 ≤ R.cells) (hRslots : slots + 6 ≤ R.slots) (hlocks : meth.locks = false)
    (hx : ∀ t : State, s.vm.Alike t.vm → H.size ≤ t.heap.size → (∀ q : Nat, q < H.size → t.heap[q]? = H[q]?) → XC cls s t)
    (hf : ∀ z ∈ locs, free z.base) (hc : cells + 1 ≤ mc) (hs : slots + 6 ≤ ms) :
    W p l e R s m args below meth c H locs cells slots (vx_MQ below Qc XC args s mc ms free) (F0 m pc ls rest) := by
  intro T hT X
  have htr : e.platform.stackTraces = false := (show e.platform.stackTraces = l.stackTraces by rw [X.admits.platform]).trans hl
  have Y := vx_rebase X (R' := { frames := R.frames, locals := R.locals, cells := 1, slots := 6 }) (Nat.le_refl _) (Nat.le_refl _) hRcells hRslots
  obtain ⟨s', hA⟩ : ∃ z, z = (T.setVm s.vm).setFrames (.invoking m args :: below) := ⟨_, rfl⟩
  rw [← hA] at Y
  have hvm : s'.vm = s.vm := by rw [hA]; rfl
  have hhp : s'.heap = H := by rw [hA]; exact hT
  have hW0 : s.WarmedH s'.vm := by rw [hvm]; exact State.WarmedH.refl s
  have hat' : ∀ w ∈ vx_atS own ic cls names, w.before args s' = true := fun w hw => vx_ot_at hW0 hvm.symm (hgood w (List.mem_cons_of_mem _ (List.mem_cons_of_mem _ hw))) (hat w hw)
  have hk' : (Cond.classLink own ik cls).before args s' = true := vx_ot_at hW0 hvm.symm (hgood _ List.mem_cons_self) hk
  have hini' : (Cond.initialized cls).before args s' = true := vx_ot_at hW0 hvm.symm (hgood _ (List.mem_cons_of_mem _ List.mem_cons_self)) hini
  have hU' : vx_Zq Bundle.tN "UNASSIGNED_STACK" Bundle.steD A s' s'.heap := by rw [hhp]; exact vx_Zq.moved hW0.alike (hU.kept hS.2.1)
  have hN' : vx_Zq Bundle.tN "SUPPRESSED_SENTINEL" Bundle.listD A s' s'.heap := by rw [hhp]; exact vx_Zq.moved hW0.alike (hN.kept hS.2.1)
  have h : ∀ w ∈ Bundle.ownAtoms own ic cls names, w.before args s' = true := vx_own hat' (vx_isRefq hU'.1) (vx_isRefq hN'.1) hU'.2.word hN'.2.word
  have hown' : s'.vm.findClass own = some m.cls := by rw [hvm]; exact hown
  have hins : (Cond.instantiable cls 6).before args s' = true := h _ (by simp [Bundle.ownAtoms])
  obtain ⟨vm₁, cX, kX, hfX, hkX, -, -, X₁, st1⟩ := Y.newCold hexec (own := own) (C := cls) (index := ik) (n := 6) hown' hk' hins hini'
    (g := F0 m pc ls rest) rfl (by rw [hb]; exact d0) (Nat.le_refl _) (Nat.le_refl _)
  generalize hT1 : (T.setVm vm₁).pushCell { cls := cX, slots := kX.instanceTypes.map defaultValue, vm := .none } = T1 at X₁ st1
  have hcat : (Value.ref T.heap.size).category = 1 := rfl
  have hcellA : T1.heap[T.heap.size]? = some (freshCell cX kX) := by rw [← hT1]; exact State.heap_pushCell_size _ _
  have d3' : decode c.code (pc + 3) = .ok (.dup, 1) := by rw [hb]; exact d3
  have d4' : decode c.code (pc + 4) = .ok (.ldc is, 2) := by rw [hb]; exact d4
  have hstr' : vk_R own is text sa s' := vk_R.warm hW0 hstr
  obtain ⟨U, hsteps, hrun, hend, hW, hsame, ce, hce, hO⟩ := X₁.ctorThrowS hexec htr (own := own) (cls := cls) (names := names) (ic := ic) hown' hcls hnames h (fun x hx => nomatch hx) hfX hkX hcellA (by rw [hhp, hT]; exact Nat.le_refl _) (msg := .ref sa) rfl
    (g := { method := m, pc := pc + 6, locals := ls, stack := .ref sa :: .ref T.heap.size :: .ref T.heap.size :: rest, locked := none }) rfl hsize rfl rfl (rest := rest) rfl
    (by rw [hb]; exact d6) (by rw [hb]; exact d9) hout hRframes (by simp only [List.map_cons, List.sum_cons, hcat]; omega) hlocks
  obtain ⟨f1, f2⟩ := vx_frame hsame
  rw [hhp] at f1 f2
  have hWs : s.WarmedH U.vm := State.WarmedH.trans hW0 hW
  have hcl : s.vm.findClass cls = some ce.cls := by
    have h9 := hO.cls
    rw [hvm] at h9
    exact h9
  have hall : s.sameButNew ({ U with vm := s.vm } : State) locs mc ms := by
    subst hA
    obtain ⟨e1, e2⟩ := hsame
    rw [State.setFrames_setFrames] at e1
    have h2 : (T.setVm s.vm).sameButNew ({ U with vm := s.vm } : State) [] (0 + 1) (0 + 6) := ⟨e1, e2⟩
    have h3 := X.same.trans h2
    rw [List.append_nil] at h3
    exact h3.mono hc hs
  refine ⟨U, ?_, .threw T.heap.size, hrun, hend, Or.inr ⟨T.heap.size, rfl, cls, ce, locs, hx U hWs.alike f1 (fun q hq => f2 q hq (fun z hz => nomatch hz)), hce, hO.vm, hcl, hWs, hall, hf⟩⟩
  refine st1 _ ?_
  show Steps p.tables e below (T1.setTop { method := m, pc := pc + 3, locals := ls, stack := .ref T.heap.size :: rest, locked := none }) _
  jvm_step X₁.here [X₁.here.top, hexec, d3', Value.category]
  exact X₁.ldcString hexec (own := own) (text := text) (index := is) (a := sa) hown' hstr'.1 hstr'.2
    (g := { method := m, pc := pc + 4, locals := ls, stack := .ref T.heap.size :: .ref T.heap.size :: rest, locked := none }) rfl d4' _ hsteps
/-- 'throw new E("text")', the text by a wide index -/
theorem vx_throwSW {cc : ByteArray} {pc : Nat} (hexec : p.tables.exec = Jvm.exec) (hb : c.code = cc) (hl : l.stackTraces = false) {own cls text : String} {names : List String} {ik is ic mc ms sa : Nat} {A : Nat → Prop}
    (hown : s.vm.findClass own = some m.cls) (hcls : Bundle.fit cls = true) (hnames : ∀ n ∈ names, Bundle.fit n = true)
    (hk : (Cond.classLink own ik cls).before args s = true) (hini : (Cond.initialized cls).before args s = true) (hstr : vk_R own is text sa s) (hat : ∀ w ∈ vx_atS own ic cls names, w.before args s = true)
    (hgood : ∀ w ∈ Cond.classLink own ik cls :: Cond.initialized cls :: vx_atS own ic cls names, vx_ot w = true)
    (hU : vx_Zq Bundle.tN "UNASSIGNED_STACK" Bundle.steD A s s.heap) (hN : vx_Zq Bundle.tN "SUPPRESSED_SENTINEL" Bundle.listD A s s.heap) (hS : va_S A s.heap H locs) (hsize : ls.size = c.maxLocals)
    (d0 : decode cc pc = .ok (.new ik, 3)) (d3 : decode cc (pc + 3) = .ok (.dup, 1)) (d4 : decode cc (pc + 4) = .ok (.ldc_w is, 3)) (d7 : decode cc (pc + 7) = .ok (.invokespecial ic, 3)) (d10 : decode cc (pc + 10) = .ok (.athrow, 1))
    (hout : ∀ x ∈ c.exceptionTable.toList, covers x (pc + 10) = false)
    (hRframes : names.length + 3 < R.frames) (hRlocals : (rest.map fun v => v.category).sum + (13 * (names.length + 1) + 43) ≤ R.locals) (hRcells : cells + 1 ≤ R.cells) (hRslots : slots + 6 ≤ R.slots) (hlocks : meth.locks = false)
    (hx : ∀ t : State, s.vm.Alike t.vm → H.size ≤ t.heap.size → (∀ q : Nat, q < H.size → t.heap[q]? = H[q]?) → XC cls s t)
    (hf : ∀ z ∈ locs, free z.base) (hc : cells + 1 ≤ mc) (hs : slots + 6 ≤ ms) :
    W p l e R s m args below meth c H locs cells slots (vx_MQ below Qc XC args s mc ms free) (F0 m pc ls rest) := by
  intro T hT X
  have htr : e.platform.stackTraces = false := (show e.platform.stackTraces = l.stackTraces by rw [X.admits.platform]).trans hl
  have Y := vx_rebase X (R' := { frames := R.frames, locals := R.locals, cells := 1, slots := 6 }) (Nat.le_refl _) (Nat.le_refl _) hRcells hRslots
  obtain ⟨s', hA⟩ : ∃ z, z = (T.setVm s.vm).setFrames (.invoking m args :: below) := ⟨_, rfl⟩
  rw [← hA] at Y
  have hvm : s'.vm = s.vm := by rw [hA]; rfl
  have hhp : s'.heap = H := by rw [hA]; exact hT
  have hW0 : s.WarmedH s'.vm := by rw [hvm]; exact State.WarmedH.refl s
  have hat' : ∀ w ∈ vx_atS own ic cls names, w.before args s' = true := fun w hw => vx_ot_at hW0 hvm.symm (hgood w (List.mem_cons_of_mem _ (List.mem_cons_of_mem _ hw))) (hat w hw)
  have hk' : (Cond.classLink own ik cls).before args s' = true := vx_ot_at hW0 hvm.symm (hgood _ List.mem_cons_self) hk
  have hini' : (Cond.initialized cls).before args s' = true := vx_ot_at hW0 hvm.symm (hgood _ (List.mem_cons_of_mem _ List.mem_cons_self)) hini
  have hU' : vx_Zq Bundle.tN "UNASSIGNED_STACK" Bundle.steD A s' s'.heap := by rw [hhp]; exact vx_Zq.moved hW0.alike (hU.kept hS.2.1)
  have hN' : vx_Zq Bundle.tN "SUPPRESSED_SENTINEL" Bundle.listD A s' s'.heap := by rw [hhp]; exact vx_Zq.moved hW0.alike (hN.kept hS.2.1)
  have h : ∀ w ∈ Bundle.ownAtoms own ic cls names, w.before args s' = true := vx_own hat' (vx_isRefq hU'.1) (vx_isRefq hN'.1) hU'.2.word hN'.2.word
  have hown' : s'.vm.findClass own = some m.cls := by rw [hvm]; exact hown
  have hins : (Cond.instantiable cls 6).before args s' = true := h _ (by simp [Bundle.ownAtoms])
  obtain ⟨vm₁, cX, kX, hfX, hkX, -, -, X₁, st1⟩ := Y.newCold hexec (own := own) (C := cls) (index := ik) (n := 6) hown' hk' hins hini'
    (g := F0 m pc ls rest) rfl (by rw [hb]; exact d0) (Nat.le_refl _) (Nat.le_refl _)
  generalize hT1 : (T.setVm vm₁).pushCell { cls := cX, slots := kX.instanceTypes.map defaultValue, vm := .none } = T1 at X₁ st1
  have hcat : (Value.ref T.heap.size).category = 1 := rfl
  have hcellA : T1.heap[T.heap.size]? = some (freshCell cX kX) := by rw [← hT1]; exact State.heap_pushCell_size _ _
  have d3' : decode c.code (pc + 3) = .ok (.dup, 1) := by rw [hb]; exact d3
  have d4' : decode c.code (pc + 4) = .ok (.ldc_w is, 3) := by rw [hb]; exact d4
  have hstr' : vk_R own is text sa s' := vk_R.warm hW0 hstr
  obtain ⟨U, hsteps, hrun, hend, hW, hsame, ce, hce, hO⟩ := X₁.ctorThrowS hexec htr (own := own) (cls := cls) (names := names) (ic := ic) hown' hcls hnames h (fun x hx => nomatch hx) hfX hkX hcellA (by rw [hhp, hT]; exact Nat.le_refl _) (msg := .ref sa) rfl
    (g := { method := m, pc := pc + 7, locals := ls, stack := .ref sa :: .ref T.heap.size :: .ref T.heap.size :: rest, locked := none }) rfl hsize rfl rfl (rest := rest) rfl
    (by rw [hb]; exact d7) (by rw [hb]; exact d10) hout hRframes (by simp only [List.map_cons, List.sum_cons, hcat]; omega) hlocks
  obtain ⟨f1, f2⟩ := vx_frame hsame
  rw [hhp] at f1 f2
  have hWs : s.WarmedH U.vm := State.WarmedH.trans hW0 hW
  have hcl : s.vm.findClass cls = some ce.cls := by
    have h9 := hO.cls
    rw [hvm] at h9
    exact h9
  have hall : s.sameButNew ({ U with vm := s.vm } : State) locs mc ms := by
    subst hA
    obtain ⟨e1, e2⟩ := hsame
    rw [State.setFrames_setFrames] at e1
    have h2 : (T.setVm s.vm).sameButNew ({ U with vm := s.vm } : State) [] (0 + 1) (0 + 6) := ⟨e1, e2⟩
    have h3 := X.same.trans h2
    rw [List.append_nil] at h3
    exact h3.mono hc hs
  refine ⟨U, ?_, .threw T.heap.size, hrun, hend, Or.inr ⟨T.heap.size, rfl, cls, ce, locs, hx U hWs.alike f1 (fun q hq => f2 q hq (fun z hz => nomatch hz)), hce, hO.vm, hcl, hWs, hall, hf⟩⟩
  refine st1 _ ?_
  show Steps p.tables e below (T1.setTop { method := m, pc := pc + 3, locals := ls, stack := .ref T.heap.size :: rest, locked := none }) _
  jvm_step X₁.here [X₁.here.top, hexec, d3', Value.category]
  exact X₁.ldcStringW hexec (own := own) (text := text) (index := is) (a := sa) hown' hstr'.1 hstr'.2
    (g := { method := m, pc := pc + 4, locals := ls, stack := .ref T.heap.size :: .ref T.heap.size :: rest, locked := none }) rfl d4' _ hsteps
end Ends
section Bodies
variable {l : Launch}
theorem vx_ofW {y : MethodName} {ws ws' : List Cond} {rm : Room} {Pc : Array Value → State → Prop} {Qc : Array Value → State → Outcome → State → Prop} {XC : String → State → State → Prop} {mc ms : Nat} {free : Addr → Prop} {cc : ByteArray} {maxL : Nat} {ret : Option FieldType}
    (hy : plainName y.cls = true) (hw : ws = Cond.code y cc maxL ret :: ws')
    (body : ∀ p e s m args below meth c s₁, BodyLoose p l y (headSpec ws rm) cc maxL ret e s m args below meth c s₁ → c.maxLocals = maxL → (∀ x ∈ c.exceptionTable.toList, False) → Pc args s →
      W p l e (headSpec ws rm).room s m args below meth c s.heap [] 0 0 (vx_MQ below Qc XC args s mc ms free) (entryFrame m args maxL)) : vx_Met l y ws rm Pc Qc XC mc ms free := by
  refine MetFree.of_bodyS (code := cc) (maxLocals := maxL) (ret := ret) hy ?_ ?_
  · intro args s m h hn
    obtain ⟨meth, c, h1, h2, h3, h4, h5, h6, -, -⟩ := Cond.code_spec hn (atoms_spec (ws := ws) h _ (by rw [hw]; exact List.mem_cons_self))
    exact ⟨meth, c, h1, h2, h3, h4, h5, h6⟩
  · intro p e s m args below meth c s₁ B hml hP _
    have hh0 : s₁.heap = s.heap := by rw [B.state]; rfl
    have ht : ∀ x ∈ c.exceptionTable.toList, False := by
      obtain ⟨meth9, c9, h1, h2, -, -, -, -, h7, -⟩ := Cond.code_spec B.named (atoms_spec (ws := ws) B.pre _ (by rw [hw]; exact List.mem_cons_self))
      cases Option.some.inj (h1.symm.trans B.method)
      cases Option.some.inj (h2.symm.trans (Stand.of_body B).code)
      intro x hx
      rw [Array.isEmpty_iff.mp h7] at hx
      cases hx
    obtain ⟨t, a1, o, b1, b2, b3⟩ := body p e s m args below meth c s₁ B hml ht hP s₁ hh0 (Stand.of_body B)
    exact ⟨t, o, a1, b1, b2, b3⟩
/-- the table of a body with handlers -/
theorem vx_table {p : Program} {x y : MethodName} {S : Spec} {cc bytes : ByteArray} {maxL maxL' : Nat} {ret ret' : Option FieldType} {e : Env} {s s₁ : State} {m : MethodId} {args : Array Value} {below : List Frame} {meth : Method} {c : Code} {hh : List (Nat × Nat × Nat × Nat)}
    (B : BodyLoose p l y S cc maxL ret e s m args below meth c s₁) (h : (Cond.codeWith y bytes maxL' ret' hh).before args s = true) : c.exceptionTable.toList = tableOf hh := by
  obtain ⟨m9, meth9, c9, hn9, h1, h2, -, -, h6, -⟩ := Cond.codeWith_spec h
  cases Option.some.inj (hn9.symm.trans B.named)
  cases Option.some.inj (h1.symm.trans B.method)
  cases Option.some.inj (h2.symm.trans (Stand.of_body B).code)
  rw [← h6, table_eq]
end Bodies
end VXA
/-! ===== END ===== -/
/-! ===== BEGIN a static call of a method with an exception table ===== -/
section VXS
variable {p : Program} {l : Launch} {e : Env} {R : Room} {s : State} {m : MethodId} {args : Array Value} {below : List Frame} {meth : Method} {c : Code} {T : State} {H : Heap} {locs : List Loc} {cells slots : Nat}
abbrev vx_CSW (R : Room) (s : State) (args : Array Value) (own : String) (index : Nat) (y : MethodName) (bytes : ByteArray) (maxL : Nat) (ret : Option FieldType) (hh : List (Nat × Nat × Nat × Nat)) (ws : List Cond) (rm : Room) (mc ms n : Nat) : Prop :=
  (rm.cells = mc ∧ rm.slots = ms ∧ rm.frames + 1 ≤ R.frames ∧ 8 + (maxL + 11) + rm.locals ≤ R.locals ∧ (∀ w ∈ ws, ∀ (a' : Array Value) (U : State), s.WarmedH U.vm → w.before a' U = true) ∧ Cond.codeWith y bytes maxL ret hh ∈ ws) ∧
  (Cond.codeWith y bytes maxL ret hh).before args s = true ∧ (Cond.initialized y.cls).before args s = true ∧ (y.cls ≠ "java/lang/invoke/MethodHandle" ∧ y.cls ≠ "java/lang/invoke/VarHandle") ∧
  (∀ sig, parseMethodDescriptor y.desc = some sig → n = sig.parameters.length) ∧ (Cond.methodLink own index y).before args s = true ∧ (Cond.static y).before args s = true
theorem vx_cwSW {own : String} {index maxL mc ms : Nat} {y : MethodName} {bytes : ByteArray} {ret : Option FieldType} {hh : List (Nat × Nat × Nat × Nat)} {Ts ws ws' : List Cond} {rm : Room} (n : Nat) (ht : ∀ w ∈ Ts, w.before args s = true) (hT : GoodIn Ts (va_wsS own index y ws)) (hw : ws = Cond.codeWith y bytes maxL ret hh :: ws') (hrc : rm.cells = mc) (hrs : rm.slots = ms)
    (hd : y.cls ≠ "java/lang/invoke/MethodHandle" ∧ y.cls ≠ "java/lang/invoke/VarHandle" ∧ (parseMethodDescriptor y.desc).map (fun d => d.parameters.length) = some n) (hR : rm.frames + 1 ≤ R.frames ∧ 8 + (maxL + 11) + rm.locals ≤ R.locals) :
    vx_CSW R s args own index y bytes maxL ret hh ws rm mc ms n := by
  have ok : ∀ w ∈ va_wsS own index y ws, w.before args s = true := fun w h => ht w (hT w h).1
  have hG : GoodIn Ts ws := fun w h => hT w (by unfold va_wsS; exact List.mem_append_right _ h)
  have hc : Cond.codeWith y bytes maxL ret hh ∈ ws := by rw [hw]; exact List.mem_cons_self
  refine ⟨⟨hrc, hrs, hR.1, hR.2, pay_in ht hG, hc⟩, ht _ (hG _ hc).1, ok _ (by simp [va_wsS]), ⟨hd.1, hd.2.1⟩, fun sig h => ?_, ok _ (by simp [va_wsS]), ok _ (by simp [va_wsS])⟩
  have h2 := hd.2.2
  rw [h] at h2
  exact (Option.some.inj h2).symm
theorem vx_callSW (X : Stand p l e R s m args below meth c T locs cells slots) (hexec : p.tables.exec = Jvm.exec) {own : String} {index : Nat} {y : MethodName} {bytes : ByteArray} {maxL : Nat} {ret : Option FieldType} {hh : List (Nat × Nat × Nat × Nat)}
    (hown : s.vm.findClass own = some m.cls) (hlink : (Cond.methodLink own index y).before args s = true) (hstat : (Cond.static y).before args s = true) (hinit : (Cond.initialized y.cls).before args s = true)
    (hcode : (Cond.codeWith y bytes maxL ret hh).before args s = true) (hy : y.cls ≠ "java/lang/invoke/MethodHandle" ∧ y.cls ≠ "java/lang/invoke/VarHandle")
    {W9 : Nat} {Pre : Pt → Array Value → Prop} {Post : Pt → Array Value → Option Value → Pt → Prop} (hK : Back l R p e below s args y 3 W9 Pre Post)
    {g : JFrame} (hg : g.method = m) (hsize : g.locals.size = c.maxLocals) {argsL rest : List Value} (hlen : ∀ sig, parseMethodDescriptor y.desc = some sig → argsL.length = sig.parameters.length)
    (hstack : g.stack = argsL.reverse ++ rest) (hW : 2 * g.monitorRoom + (rest.map fun v => v.category).sum ≤ W9) (hdg : decode c.code g.pc = .ok (.invokestatic index, 3))
    (hpre : ∀ vm₁, s.WarmedH vm₁ → Pre ⟨T.setVm vm₁, locs, cells, slots⟩ argsL.toArray) :
    ∃ (v : Option Value) (vm₁ : Vm) (B : Pt), s.WarmedH vm₁ ∧ Stand p l e R s m args below meth c B.U B.locs B.cells B.slots ∧ Post ⟨T.setVm vm₁, locs, cells, slots⟩ argsL.toArray v B ∧
      ∀ target, Steps p.tables e below (B.U.setTop { g with pc := g.pc + 3, stack := v.toList ++ rest }) target → Steps p.tables e below (T.setTop g) target := by
  obtain ⟨mk, methM, cM, hnamed, hmethM, -, -, -, -, -, -, hsigM⟩ := Cond.codeWith_spec hcode
  have hstatic : methM.isStatic = true := Cond.static_spec hnamed hmethM hstat
  obtain ⟨kP, hkP, -⟩ := className_of_methodNamed hnamed
  have hinitP : kP.init = .initialized := Cond.initialized_spec (findClass_of_methodNamed hnamed) hkP hinit
  obtain ⟨vm₁, X₁, hstep₁⟩ := X.invokestatic hexec hown hlink hnamed hmethM hstatic hkP hinitP hy (g := g) hg (argsL := argsL) (rest := rest) (hlen _ hsigM) hstack hdg
  obtain ⟨v, B, X', hpost, hsteps⟩ := hK m meth c ⟨T.setVm vm₁, locs, cells, slots⟩ { g with stack := rest } (.invokestatic index) mk argsL.toArray X₁ hg hsize hdg hW (X₁.named hnamed) (hpre vm₁ X₁.warmed)
  exact ⟨v, vm₁, B, X₁.warmed, X', hpost, fun target h => hstep₁ _ fun acts => by rw [doInvoke_state]; exact hsteps.trans h⟩
theorem vx_runSW {y : MethodName} {bytes cc : ByteArray} {maxL nL mc ms n index : Nat} {ret : Option FieldType} {hh : List (Nat × Nat × Nat × Nat)} {ws : List Cond} {rm : Room} {Pc : Array Value → State → Prop} {Qc : Array Value → State → Outcome → State → Prop} {free : Addr → Prop} {Ts : List Cond} {own : String} {As rest : List Value} {g : JFrame}
    (S : CallFix p m c cc nL s args Ts own) (hM : Met l y ws rm Pc Qc mc ms free) (cw : vx_CSW R s args own index y bytes maxL ret hh ws rm mc ms n) (hp : PreS s H Pc As)
    (hg : g.method = m) (hn : As.length = n) (hsize : g.locals.size = nL) (hstack : g.stack = As.reverse ++ rest) (hW : 2 * g.monitorRoom + (rest.map fun v => v.category).sum ≤ 8) (hdg : decode cc g.pc = .ok (.invokestatic index, 3)) (hf : cells + mc ≤ R.cells ∧ slots + ms ≤ R.slots) :
    va_Run p l e R s m args below meth c H locs cells slots mc ms g rest (Qc As.toArray) (free) := by
  obtain ⟨⟨hrc, hrs, hfr, hlo, hws, hcw⟩, hcode, hini, hy, hlen, hl, hstt⟩ := cw
  have hK : Back l R p e below s args y 3 8 (PreOf R mc ms Pc) (PostOf Qc mc ms free) := va_backW (hh := hh) (bytes := bytes) (maxL := maxL) (ret := ret) hM hp.1 hrc hrs hfr hlo hws hcw (fun a' U hW => word_at hW (Or.inl (by first | rfl | simp [Cond.onTables, Cond.keeps, Cond.steady])) hini)
  obtain ⟨hx, hb, hml, ho, -⟩ := S
  intro T hT X
  obtain ⟨v, vm₁, ⟨U', l2, c2, s2⟩, hW₁, X', ⟨g', mk, t, L, e1, e2, hq, h1, hL, h2, h3⟩, st⟩ := vx_callSW X hx (hh := hh) (bytes := bytes) (maxL := maxL) (ret := ret) ho hl hstt hini hcode hy hK hg (hsize.trans hml.symm) (argsL := As) (rest := rest) (fun sig h => hn.trans (hlen sig h)) hstack hW (by rw [hb]; exact hdg)
    (fun vm₁ hW₁ => ⟨hf.1, hf.2, hp.2 (T.setVm vm₁) hT hW₁⟩)
  dsimp only [Pt.U, Pt.locs, Pt.cells, Pt.slots] at X' e1 e2 h1 h2 h3 st
  subst h1; subst h2; subst h3
  exact ⟨v, (T.setVm vm₁).calling g' mk As.toArray, t, U', L, hT, X', hL, e1, e2, hq, st⟩
/-- not caught here, past rows that name other classes: it goes on to the caller -/
theorem vx_outP {p : Program} {l : Launch} {e : Env} {R : Room} {s : State} {m : MethodId} {args : Array Value} {below : List Frame} {meth : Method} {c : Code} {H : Heap} {locs : List Loc} {cells slots : Nat} {free : Addr → Prop} {ls : Array Slot} {rest : List Value} {Qc : Array Value → State → Outcome → State → Prop} {XC : String → State → State → Prop}
    {pc : Nat} {own E : String} {ce : Cell} {q : Addr} {mc ms : Nat} (hown : s.vm.findClass own = some m.cls) (hlocks : meth.locks = false)
    (hpass : ∀ z ∈ c.exceptionTable.toList, covers z pc = false ∨ (z.catchType ≠ 0 ∧ ∃ nm : String, (Cond.classLink own z.catchType nm).before args s = true ∧ va_Nc E nm s)) (hcell : H[q]? = some ce) (hv : ce.vm = .none) (hcl : s.vm.findClass E = some ce.cls)
    (hx : ∀ t : State, t.heap = H → s.vm.Alike t.vm → XC E s t) (hf : ∀ z ∈ locs, free z.base) (hc : cells ≤ mc) (hs : slots ≤ ms) :
    vx_W p l e R s m args below meth c H locs cells slots (vx_MQ below Qc XC args s mc ms free) (F0 m pc ls rest) q := by
  intro T hT X
  have hpl : e.platform.magicAccessors = ({} : Platform).magicAccessors := by rw [X.admits.platform]
  obtain ⟨vm', hW', X', st⟩ := X.outThrough hlocks q (g := F0 m pc ls rest) rfl rfl rfl (cell := ce) (by rw [hT]; exact hcell) (by rw [hv]; rfl)
    (by obtain ⟨k9, h9, -⟩ := Vm.findClass_spec hcl; exact ⟨k9, h9⟩) (fun z hz => by
      rcases hpass z hz with h | ⟨hz0, nm, hl1, hn1⟩
      · exact Or.inl h
      · obtain ⟨c6, hc6, hcl6⟩ := Cond.classLink_spec hown hl1 e.platform hpl
        obtain ⟨a8, b8, h1, h2, h3⟩ := hn1
        cases Option.some.inj (h1.symm.trans hcl)
        cases Option.some.inj (h2.symm.trans hc6)
        exact Or.inr ⟨hz0, _, hcl6, h3⟩)
  obtain ⟨g₀, hfr⟩ := X'.frames_eq
  have hcell9 : ((T.setVm vm').setFrames (.throwing q :: below)).heap[q]? = some ce := by
    show T.heap[q]? = some ce
    rw [hT]; exact hcell
  have hend : Ended ((T.setVm vm').setFrames (.throwing q :: below)) below (.threw q) := State.frames_setFrames _ (State.cur_lt_of_frames hfr)
  refine ⟨(T.setVm vm').setFrames (.throwing q :: below), ?_, .threw q, X'.here.running, hend, Or.inr ⟨q, rfl, E, ce, locs, hx _ hT (X'.ends _).1.alike, hcell9, hv, hcl, (X'.ends _).1, (X'.ends _).2.mono hc hs, hf⟩⟩
  rw [X.pushThrowing_eq]
  exact st
/-- a thing of a world lies in the heap -/
theorem vx_lt {D : va_G} {cl : List vw_C} {ws : va_W} {H1 : Heap} (h : va_P D cl ws H1) {k : Nat} {q : Nat × va_E} (hk : ws[k]? = some q) : q.1 < H1.size := (h k q hk).lt
end VXS
/-! ===== END ===== -/
/-! ===== BEGIN methods with a table of their own: called by a name, returning or throwing ===== -/
section VXH
/-! vx_backW, vx_callVX, vx_callSX, vx_callVW, vx_runVW, vx_runVX, vx_runSX, vx_ofWH follow the same proofs as their sisters above (Free/Laws.lean, Shelf42/LK1.lean); vx_outP calls Shelf42/NT130.lean (outThrough). -/
section
variable {l : Launch} {R : Room} {p : Program} {e : Env} {below : List Frame} {s : State} {sargs : Array Value} {y : MethodName} {len W9 : Nat}
theorem vx_backW {ws : List Cond} {rm : Room} {Pc : Array Value → State → Prop} {Qc : Array Value → State → Outcome → State → Prop} {XC : String → State → State → Prop} {mc ms : Nat} {free : Addr → Prop} {bytes : ByteArray} {maxL : Nat} {ret : Option FieldType} {hh : List (Nat × Nat × Nat × Nat)}
    (hM : vx_Met l y ws rm Pc Qc XC mc ms free) (hblind : FrameBlind Pc) (hrc : rm.cells = mc) (hrs : rm.slots = ms)
    (hframes : rm.frames + 1 ≤ R.frames) (hlocals : W9 + (maxL + 11) + rm.locals ≤ R.locals)
    (hws : ∀ w ∈ ws, ∀ a' U, s.WarmedH U.vm → w.before a' U = true) (hcode : Cond.codeWith y bytes maxL ret hh ∈ ws) (hinit : ∀ a' U, s.WarmedH U.vm → (Cond.initialized y.cls).before a' U = true) :
    vx_Back l R p e below s sargs y len W9 (PreOf R mc ms Pc) (PostOf Qc mc ms free) (vx_Post XC mc ms free) := by
  intro m meth c A g ig mk a X hg hsize hdg hW hn hp
  have h1 : (headSpec ws rm).pre.before a A.U = true := atoms_intro fun w hw => hws w hw _ _ X.warmed
  have h2 : (Cond.codeWith y bytes maxL ret hh).before a A.U = true := hws _ hcode _ _ X.warmed
  have h3 : (Cond.initialized y.cls).before a A.U = true := hinit _ _ X.warmed
  have h4 : A.cells + (headSpec ws rm).room.cells ≤ R.cells := by rw [show (headSpec ws rm).room.cells = mc from hrc]; exact hp.1
  have h5 : A.slots + (headSpec ws rm).room.slots ≤ R.slots := by rw [show (headSpec ws rm).room.slots = ms from hrs]; exact hp.2.1
  have hPc : Pc a (A.U.calling g mk a) := hblind _ _ _ _ hp.2.2
  obtain ⟨U, Ls, c0, s0⟩ := A
  dsimp only [Pt.U, Pt.locs, Pt.cells, Pt.slots] at h1 h2 h3 h4 h5 X hn hPc ⊢
  obtain ⟨m9, methY, cY, hn9, hmY, hcY, -, hlY, -⟩ := Cond.codeWith_spec h2
  cases Option.some.inj (hn9.symm.trans hn)
  obtain ⟨kY, hkY, -⟩ := className_of_methodNamed hn
  have hinitY : kY.init = .initialized := Cond.initialized_spec (findClass_of_methodNamed hn) hkY h3
  have h : At U g.method c below := by rw [hg]; exact X.here
  have hlocals9 : W9 + (maxL + 11) + (headSpec ws rm).room.locals ≤ R.locals := hlocals
  have happ : (headSpec ws rm).appliesLoose y e.platform (U.calling g mk a) = true :=
    Spec.appliesLoose_calling (g := g) h hdg hn hkY hinitY
      (X.room_calling (g := g) (R' := (headSpec ws rm).room) hsize hmY hcY hframes (by rw [hlY]; omega) h4 h5) h1
  obtain ⟨mid, hmid⟩ := h.above
  have hfr : (U.setTop g).frames = (.java g :: mid) ++ below := by rw [State.frames_setTop' g h.top, hmid]; rfl
  obtain ⟨o, s₂, hsteps, -, hend, hq⟩ := Steps.callFree hM p X.admits X.cas X.clock (acts := []) hfr happ hPc trivial
  have hq' : vx_Q Qc XC mc ms free a (U.calling g mk a) o s₂ := hq
  rw [State.frames_setTop' g h.top] at hend
  obtain ⟨g₀, hg0⟩ := Option.isSome_iff_exists.mp h.top
  obtain ⟨r, hr⟩ := State.topJava?_eq_some.mp hg0
  have hr' : (({ U with heap := s₂.heap, slotsUsed := s₂.slotsUsed } : State).setVm s₂.vm).frames = .java g₀ :: r := hr
  rcases hq' with ⟨hqc, L, hfe, hL⟩ | ⟨q, rfl, E, ce, L, hx, hce, hcv, hcl, hW₂, hsm, hL⟩
  · obtain ⟨⟨v, rfl⟩, hW₂, e2, q2, q3, q4, q5, q6⟩ := id hfe
    have e3 : s₂ = ({ (U.calling g mk a).setFrames s₂.frames with heap := s₂.heap, slotsUsed := s₂.slotsUsed } : State).setVm s₂.vm := by
      have : s₂ = ({ s₂ with vm := (U.calling g mk a).vm } : State).setVm s₂.vm := rfl
      rw [e2] at this
      exact this
    obtain ⟨c₂, i₂, len₂, hc₂, hd₂, hf₂⟩ := hend
    have hW' : U.WarmedH s₂.vm := hW₂
    have hcc : c₂ = c := by
      have h1 : s₂.code? g.method = U.code? g.method := by
        rw [State.code?_eq, State.code?_eq, hW'.alike.method?]
      exact Option.some.inj (hc₂.symm.trans (h1.trans h.code))
    subst hcc
    have hlen : len₂ = len := by rw [hdg] at hd₂; cases hd₂; rfl
    subst hlen
    have hs₂ : s₂ = (({ U with heap := s₂.heap, slotsUsed := s₂.slotsUsed } : State).setVm s₂.vm).setTop { g with pc := g.pc + len₂, stack := v.toList ++ g.stack } := by
      refine e3.trans ?_
      rw [hf₂, State.calling_eq h.top, State.setFrames_setFrames, State.setTop_of_frames _ hr', hr]
      rfl
    have hsame : U.sameButNew ({ U with heap := s₂.heap, slotsUsed := s₂.slotsUsed } : State) L mc ms := by
      refine ⟨?_, q2, q3, q4, q5, q6⟩
      obtain ⟨t, ht, -⟩ := State.frames_cons hr
      show ({ U with heap := s₂.heap, slotsUsed := s₂.slotsUsed } : State) = { U.setFrames U.frames with heap := s₂.heap, slotsUsed := s₂.slotsUsed }
      rw [State.setFrames_self ht]
    subst hg
    refine Or.inl ⟨v, ⟨(({ U with heap := s₂.heap, slotsUsed := s₂.slotsUsed } : State).setVm s₂.vm), Ls ++ L, c0 + mc, s0 + ms⟩,
      ⟨X.admits, X.cas, X.clock, X.frames, X.room, X.hears, X.method, X.code, (X.here.setHeapUsed s₂.heap s₂.slotsUsed).setVm hW'.alike, X.tail, State.WarmedH.trans X.warmed hW', X.limits, X.bytes, X.same.trans (hsame.setVm s.vm)⟩,
      ⟨g, mk, s₂, L, rfl, rfl, hqc, rfl, hL, rfl, rfl⟩, ?_⟩
    show Steps p.tables e below _ ((({ U with heap := s₂.heap, slotsUsed := s₂.slotsUsed } : State).setVm s₂.vm).setTop { g with pc := g.pc + len₂, stack := v.toList ++ g.stack })
    rw [← hs₂]
    exact hsteps
  · obtain ⟨e2, q2, q3, q4, q5, q6⟩ := id hsm
    have e3 : s₂ = ({ (U.calling g mk a).setFrames s₂.frames with heap := s₂.heap, slotsUsed := s₂.slotsUsed } : State).setVm s₂.vm := by
      have : s₂ = ({ s₂ with vm := (U.calling g mk a).vm } : State).setVm s₂.vm := rfl
      rw [e2] at this
      exact this
    have hf₂ : s₂.frames = .throwing q :: .java g :: U.frames.tail := hend
    have hW' : U.WarmedH s₂.vm := hW₂
    have hs₂ : s₂ = ((({ U with heap := s₂.heap, slotsUsed := s₂.slotsUsed } : State).setVm s₂.vm).setTop g).pushFrame (.throwing q) := by
      refine e3.trans ?_
      rw [hf₂, State.calling_eq h.top, State.setFrames_setFrames, State.pushFrame, State.frames_setTop _ hr', State.setTop_of_frames _ hr', State.setFrames_setFrames, hr]
      rfl
    have hsame : U.sameButNew ({ U with heap := s₂.heap, slotsUsed := s₂.slotsUsed } : State) L mc ms := by
      refine ⟨?_, q2, q3, q4, q5, q6⟩
      obtain ⟨t, ht, -⟩ := State.frames_cons hr
      show ({ U with heap := s₂.heap, slotsUsed := s₂.slotsUsed } : State) = { U.setFrames U.frames with heap := s₂.heap, slotsUsed := s₂.slotsUsed }
      rw [State.setFrames_self ht]
    subst hg
    refine Or.inr ⟨q, ⟨(({ U with heap := s₂.heap, slotsUsed := s₂.slotsUsed } : State).setVm s₂.vm), Ls ++ L, c0 + mc, s0 + ms⟩,
      ⟨X.admits, X.cas, X.clock, X.frames, X.room, X.hears, X.method, X.code, (X.here.setHeapUsed s₂.heap s₂.slotsUsed).setVm hW'.alike, X.tail, State.WarmedH.trans X.warmed hW', X.limits, X.bytes, X.same.trans (hsame.setVm s.vm)⟩,
      ⟨g, mk, s₂, L, E, ce, rfl, rfl, hx, hce, hcv, hcl, rfl, hL, rfl, rfl⟩, ?_⟩
    show Steps p.tables e below _ (((({ U with heap := s₂.heap, slotsUsed := s₂.slotsUsed } : State).setVm s₂.vm).setTop g).pushFrame (.throwing q))
    rw [← hs₂]
    exact hsteps
end
variable {p : Program} {l : Launch} {e : Env} {R : Room} {s : State} {m : MethodId} {args : Array Value} {below : List Frame} {meth : Method} {c : Code} {T : State} {H : Heap} {locs : List Loc} {cells slots : Nat}
theorem vx_callVX (X : Stand p l e R s m args below meth c T locs cells slots) (hexec : p.tables.exec = Jvm.exec) {own C : String} {index : Nat} {y : MethodName} {bytes : ByteArray} {maxL : Nat} {ret : Option FieldType} {hh : List (Nat × Nat × Nat × Nat)}
    (hown : s.vm.findClass own = some m.cls) (hlink : (Cond.methodLink own index y).before args s = true) (hinst : (Cond.instanceMethod y).before args s = true) (hsel : (Cond.selects C y y).before args s = true)
    (hcode : (Cond.codeWith y bytes maxL ret hh).before args s = true) (hy : y.cls ≠ "java/lang/invoke/MethodHandle" ∧ y.cls ≠ "java/lang/invoke/VarHandle")
    {W9 : Nat} {Pre : Pt → Array Value → Prop} {Post : Pt → Array Value → Option Value → Pt → Prop} {PostX : Pt → Array Value → Addr → Pt → Prop} (hK : vx_Back l R p e below s args y 3 W9 Pre Post PostX)
    {b : Addr} {cellB : Cell} (hcell : T.heap[b]? = some cellB) (hobj : cellB.vm.isStatics = false) (hcls : s.vm.findClass C = some cellB.cls)
    {g : JFrame} (hg : g.method = m) (hsize : g.locals.size = c.maxLocals) {argsL rest : List Value} (hlen : ∀ sig, parseMethodDescriptor y.desc = some sig → argsL.length = sig.parameters.length)
    (hstack : g.stack = argsL.reverse ++ .ref b :: rest) (hW : 2 * g.monitorRoom + (rest.map fun v => v.category).sum ≤ W9) (hdg : decode c.code g.pc = .ok (.invokevirtual index, 3))
    (hpre : ∀ vm₁, s.WarmedH vm₁ → Pre ⟨T.setVm vm₁, locs, cells, slots⟩ (Value.ref b :: argsL).toArray) :
    (∃ (v : Option Value) (vm₁ : Vm) (B : Pt), s.WarmedH vm₁ ∧ Stand p l e R s m args below meth c B.U B.locs B.cells B.slots ∧ Post ⟨T.setVm vm₁, locs, cells, slots⟩ (Value.ref b :: argsL).toArray v B ∧
      ∀ target, Steps p.tables e below (B.U.setTop { g with pc := g.pc + 3, stack := v.toList ++ rest }) target → Steps p.tables e below (T.setTop g) target) ∨
    (∃ (q : Addr) (vm₁ : Vm) (B : Pt), s.WarmedH vm₁ ∧ Stand p l e R s m args below meth c B.U B.locs B.cells B.slots ∧ PostX ⟨T.setVm vm₁, locs, cells, slots⟩ (Value.ref b :: argsL).toArray q B ∧
      Steps p.tables e below (T.setTop g) ((B.U.setTop { g with stack := rest }).pushFrame (.throwing q))) := by
  obtain ⟨mk, methM, hnamed, hmethM, hstM, habM⟩ := Cond.instanceMethod_spec hinst
  obtain ⟨m8, methM', cM, hn8, hmethM', -, -, -, -, -, -, hsigM⟩ := Cond.codeWith_spec hcode
  cases Option.some.inj (hn8.symm.trans hnamed)
  cases hmethM.symm.trans hmethM'
  obtain ⟨c2, r2, m2, q1, q2, q3, q4, kP, hkP, hkPi⟩ := Cond.selects_spec hsel
  cases hcls.symm.trans q1
  cases (State.methodFound?_of_named hnamed hy).symm.trans q2
  cases hnamed.symm.trans q3
  have hselP : selectMethod e.platform s.vm cellB.cls mk = .method mk := by rw [Launch.admits_selectMethod X.admits]; exact q4
  obtain ⟨vm₁, X₁, hstep₁⟩ := X.invokevirtual hexec hown hlink hnamed hmethM hstM hkP hkPi hy (a := b) (cell := cellB) hcell
    (fun z h => by rw [h] at hobj; cases hobj) hselP hmethM habM hkP hkPi (g := g) hg (argsL := argsL) (rest := rest) (hlen _ hsigM) hstack hdg
  rcases hK m meth c ⟨T.setVm vm₁, locs, cells, slots⟩ { g with stack := rest } (.invokevirtual index) mk (Value.ref b :: argsL).toArray X₁ hg hsize hdg hW (X₁.named hnamed) (hpre vm₁ X₁.warmed) with ⟨v, B, X', hpost, hsteps⟩ | ⟨q, B, X', hpost, hsteps⟩
  · exact Or.inl ⟨v, vm₁, B, X₁.warmed, X', hpost, fun target h => hstep₁ _ fun acts => by rw [doInvoke_state]; exact hsteps.trans h⟩
  · exact Or.inr ⟨q, vm₁, B, X₁.warmed, X', hpost, hstep₁ _ fun acts => by rw [doInvoke_state]; exact hsteps⟩
theorem vx_callSX (X : Stand p l e R s m args below meth c T locs cells slots) (hexec : p.tables.exec = Jvm.exec) {own : String} {index : Nat} {y : MethodName} {bytes : ByteArray} {maxL : Nat} {ret : Option FieldType} {hh : List (Nat × Nat × Nat × Nat)}
    (hown : s.vm.findClass own = some m.cls) (hlink : (Cond.methodLink own index y).before args s = true) (hstat : (Cond.static y).before args s = true) (hinit : (Cond.initialized y.cls).before args s = true)
    (hcode : (Cond.codeWith y bytes maxL ret hh).before args s = true) (hy : y.cls ≠ "java/lang/invoke/MethodHandle" ∧ y.cls ≠ "java/lang/invoke/VarHandle")
    {W9 : Nat} {Pre : Pt → Array Value → Prop} {Post : Pt → Array Value → Option Value → Pt → Prop} {PostX : Pt → Array Value → Addr → Pt → Prop} (hK : vx_Back l R p e below s args y 3 W9 Pre Post PostX)
    {g : JFrame} (hg : g.method = m) (hsize : g.locals.size = c.maxLocals) {argsL rest : List Value} (hlen : ∀ sig, parseMethodDescriptor y.desc = some sig → argsL.length = sig.parameters.length)
    (hstack : g.stack = argsL.reverse ++ rest) (hW : 2 * g.monitorRoom + (rest.map fun v => v.category).sum ≤ W9) (hdg : decode c.code g.pc = .ok (.invokestatic index, 3))
    (hpre : ∀ vm₁, s.WarmedH vm₁ → Pre ⟨T.setVm vm₁, locs, cells, slots⟩ argsL.toArray) :
    (∃ (v : Option Value) (vm₁ : Vm) (B : Pt), s.WarmedH vm₁ ∧ Stand p l e R s m args below meth c B.U B.locs B.cells B.slots ∧ Post ⟨T.setVm vm₁, locs, cells, slots⟩ argsL.toArray v B ∧
      ∀ target, Steps p.tables e below (B.U.setTop { g with pc := g.pc + 3, stack := v.toList ++ rest }) target → Steps p.tables e below (T.setTop g) target) ∨
    (∃ (q : Addr) (vm₁ : Vm) (B : Pt), s.WarmedH vm₁ ∧ Stand p l e R s m args below meth c B.U B.locs B.cells B.slots ∧ PostX ⟨T.setVm vm₁, locs, cells, slots⟩ argsL.toArray q B ∧
      Steps p.tables e below (T.setTop g) ((B.U.setTop { g with stack := rest }).pushFrame (.throwing q))) := by
  obtain ⟨mk, methM, cM, hnamed, hmethM, -, -, -, -, -, -, hsigM⟩ := Cond.codeWith_spec hcode
  have hstatic : methM.isStatic = true := Cond.static_spec hnamed hmethM hstat
  obtain ⟨kP, hkP, -⟩ := className_of_methodNamed hnamed
  have hinitP : kP.init = .initialized := Cond.initialized_spec (findClass_of_methodNamed hnamed) hkP hinit
  obtain ⟨vm₁, X₁, hstep₁⟩ := X.invokestatic hexec hown hlink hnamed hmethM hstatic hkP hinitP hy (g := g) hg (argsL := argsL) (rest := rest) (hlen _ hsigM) hstack hdg
  rcases hK m meth c ⟨T.setVm vm₁, locs, cells, slots⟩ { g with stack := rest } (.invokestatic index) mk argsL.toArray X₁ hg hsize hdg hW (X₁.named hnamed) (hpre vm₁ X₁.warmed) with ⟨v, B, X', hpost, hsteps⟩ | ⟨q, B, X', hpost, hsteps⟩
  · exact Or.inl ⟨v, vm₁, B, X₁.warmed, X', hpost, fun target h => hstep₁ _ fun acts => by rw [doInvoke_state]; exact hsteps.trans h⟩
  · exact Or.inr ⟨q, vm₁, B, X₁.warmed, X', hpost, hstep₁ _ fun acts => by rw [doInvoke_state]; exact hsteps⟩
theorem vx_callVW (X : Stand p l e R s m args below meth c T locs cells slots) (hexec : p.tables.exec = Jvm.exec) {own C : String} {index : Nat} {y : MethodName} {bytes : ByteArray} {maxL : Nat} {ret : Option FieldType} {hh : List (Nat × Nat × Nat × Nat)}
    (hown : s.vm.findClass own = some m.cls) (hlink : (Cond.methodLink own index y).before args s = true) (hinst : (Cond.instanceMethod y).before args s = true) (hsel : (Cond.selects C y y).before args s = true)
    (hcode : (Cond.codeWith y bytes maxL ret hh).before args s = true) (hy : y.cls ≠ "java/lang/invoke/MethodHandle" ∧ y.cls ≠ "java/lang/invoke/VarHandle")
    {W9 : Nat} {Pre : Pt → Array Value → Prop} {Post : Pt → Array Value → Option Value → Pt → Prop} (hK : Back l R p e below s args y 3 W9 Pre Post)
    {b : Addr} {cellB : Cell} (hcell : T.heap[b]? = some cellB) (hobj : cellB.vm.isStatics = false) (hcls : s.vm.findClass C = some cellB.cls)
    {g : JFrame} (hg : g.method = m) (hsize : g.locals.size = c.maxLocals) {argsL rest : List Value} (hlen : ∀ sig, parseMethodDescriptor y.desc = some sig → argsL.length = sig.parameters.length)
    (hstack : g.stack = argsL.reverse ++ .ref b :: rest) (hW : 2 * g.monitorRoom + (rest.map fun v => v.category).sum ≤ W9) (hdg : decode c.code g.pc = .ok (.invokevirtual index, 3))
    (hpre : ∀ vm₁, s.WarmedH vm₁ → Pre ⟨T.setVm vm₁, locs, cells, slots⟩ (Value.ref b :: argsL).toArray) :
    ∃ (v : Option Value) (vm₁ : Vm) (B : Pt), s.WarmedH vm₁ ∧ Stand p l e R s m args below meth c B.U B.locs B.cells B.slots ∧ Post ⟨T.setVm vm₁, locs, cells, slots⟩ (Value.ref b :: argsL).toArray v B ∧
      ∀ target, Steps p.tables e below (B.U.setTop { g with pc := g.pc + 3, stack := v.toList ++ rest }) target → Steps p.tables e below (T.setTop g) target := by
  obtain ⟨mk, methM, hnamed, hmethM, hstM, habM⟩ := Cond.instanceMethod_spec hinst
  obtain ⟨m8, methM', cM, hn8, hmethM', -, -, -, -, -, -, hsigM⟩ := Cond.codeWith_spec hcode
  cases Option.some.inj (hn8.symm.trans hnamed)
  cases hmethM.symm.trans hmethM'
  obtain ⟨c2, r2, m2, q1, q2, q3, q4, kP, hkP, hkPi⟩ := Cond.selects_spec hsel
  cases hcls.symm.trans q1
  cases (State.methodFound?_of_named hnamed hy).symm.trans q2
  cases hnamed.symm.trans q3
  have hselP : selectMethod e.platform s.vm cellB.cls mk = .method mk := by rw [Launch.admits_selectMethod X.admits]; exact q4
  obtain ⟨vm₁, X₁, hstep₁⟩ := X.invokevirtual hexec hown hlink hnamed hmethM hstM hkP hkPi hy (a := b) (cell := cellB) hcell
    (fun z h => by rw [h] at hobj; cases hobj) hselP hmethM habM hkP hkPi (g := g) hg (argsL := argsL) (rest := rest) (hlen _ hsigM) hstack hdg
  obtain ⟨v, B, X', hpost, hsteps⟩ := hK m meth c ⟨T.setVm vm₁, locs, cells, slots⟩ { g with stack := rest } (.invokevirtual index) mk (Value.ref b :: argsL).toArray X₁ hg hsize hdg hW (X₁.named hnamed) (hpre vm₁ X₁.warmed)
  exact ⟨v, vm₁, B, X₁.warmed, X', hpost, fun target h => hstep₁ _ fun acts => by rw [doInvoke_state]; exact hsteps.trans h⟩
abbrev vx_CVW (R : Room) (s : State) (args : Array Value) (own C : String) (index : Nat) (y : MethodName) (bytes : ByteArray) (maxL : Nat) (ret : Option FieldType) (hh : List (Nat × Nat × Nat × Nat)) (ws : List Cond) (rm : Room) (mc ms n : Nat) : Prop :=
  (rm.cells = mc ∧ rm.slots = ms ∧ rm.frames + 1 ≤ R.frames ∧ 8 + (maxL + 11) + rm.locals ≤ R.locals ∧ (∀ w ∈ ws, ∀ (a' : Array Value) (U : State), s.WarmedH U.vm → w.before a' U = true) ∧ Cond.codeWith y bytes maxL ret hh ∈ ws) ∧
  (Cond.codeWith y bytes maxL ret hh).before args s = true ∧ (Cond.initialized y.cls).before args s = true ∧ (y.cls ≠ "java/lang/invoke/MethodHandle" ∧ y.cls ≠ "java/lang/invoke/VarHandle") ∧
  (∀ sig, parseMethodDescriptor y.desc = some sig → n = sig.parameters.length) ∧ (Cond.methodLink own index y).before args s = true ∧ (Cond.instanceMethod y).before args s = true ∧ (Cond.selects C y y).before args s = true
theorem vx_cwVW {own C : String} {index maxL mc ms : Nat} {y : MethodName} {bytes : ByteArray} {ret : Option FieldType} {hh : List (Nat × Nat × Nat × Nat)} {Ts ws ws' : List Cond} {rm : Room} (n : Nat) (ht : ∀ w ∈ Ts, w.before args s = true) (hT : GoodIn Ts (wsV own index C y ws)) (hw : ws = Cond.codeWith y bytes maxL ret hh :: ws') (hrc : rm.cells = mc) (hrs : rm.slots = ms)
    (hd : y.cls = C ∧ y.cls ≠ "java/lang/invoke/MethodHandle" ∧ y.cls ≠ "java/lang/invoke/VarHandle" ∧ (parseMethodDescriptor y.desc).map (fun d => d.parameters.length) = some n) (hR : rm.frames + 1 ≤ R.frames ∧ 8 + (maxL + 11) + rm.locals ≤ R.locals) :
    vx_CVW R s args own C index y bytes maxL ret hh ws rm mc ms n := by
  obtain ⟨hC, hd⟩ := hd
  subst hC
  have ok : ∀ w ∈ wsV own index y.cls y ws, w.before args s = true := fun w h => ht w (hT w h).1
  have hG : GoodIn Ts ws := fun w h => hT w (by unfold wsV; exact List.mem_append_right _ h)
  have hc : Cond.codeWith y bytes maxL ret hh ∈ ws := by rw [hw]; exact List.mem_cons_self
  refine ⟨⟨hrc, hrs, hR.1, hR.2, pay_in ht hG, hc⟩, ht _ (hG _ hc).1, ok _ (by simp [wsV]), ⟨hd.1, hd.2.1⟩, fun sig h => ?_, ok _ (by simp [wsV]), ok _ (by simp [wsV]), ok _ (by simp [wsV])⟩
  have h2 := hd.2.2
  rw [h] at h2
  exact (Option.some.inj h2).symm
theorem vx_runVW {y : MethodName} {bytes cc : ByteArray} {maxL nL mc ms n index : Nat} {ret : Option FieldType} {hh : List (Nat × Nat × Nat × Nat)} {ws : List Cond} {rm : Room} {Pc : Array Value → State → Prop} {Qc : Array Value → State → Outcome → State → Prop} {free : Addr → Prop} {Ts : List Cond} {own C : String} {b : Addr} {As rest : List Value} {g : JFrame}
    (S : CallFix p m c cc nL s args Ts own) (hM : Met l y ws rm Pc Qc mc ms free) (cw : vx_CVW R s args own C index y bytes maxL ret hh ws rm mc ms n) (hp : PreV s H C b Pc As)
    (hg : g.method = m) (hn : As.length = n) (hsize : g.locals.size = nL) (hstack : g.stack = As.reverse ++ .ref b :: rest) (hW : 2 * g.monitorRoom + (rest.map fun v => v.category).sum ≤ 8) (hdg : decode cc g.pc = .ok (.invokevirtual index, 3)) (hf : cells + mc ≤ R.cells ∧ slots + ms ≤ R.slots) :
    va_Run p l e R s m args below meth c H locs cells slots mc ms g rest (Qc (Value.ref b :: As).toArray) free := by
  obtain ⟨⟨hrc, hrs, hfr, hlo, hws, hcw⟩, hcode, hini, hy, hlen, hl, hin, hse⟩ := cw
  have hK : Back l R p e below s args y 3 8 (PreOf R mc ms Pc) (PostOf Qc mc ms free) := va_backW (hh := hh) (bytes := bytes) (maxL := maxL) (ret := ret) hM hp.1 hrc hrs hfr hlo hws hcw (fun a' U hW => word_at hW (Or.inl (by first | rfl | simp [Cond.onTables, Cond.keeps, Cond.steady])) hini)
  obtain ⟨hx, hb, hml, ho, -⟩ := S
  obtain ⟨-, ⟨cellB, hcB, hoB, hclB⟩, hPc⟩ := hp
  intro T hT X
  obtain ⟨v, vm₁, ⟨U', l2, c2, s2⟩, hW₁, X', ⟨g', mk, t, L, e1, e2, hq, h1, hL, h2, h3⟩, st⟩ := vx_callVW X hx (C := C) (hh := hh) (bytes := bytes) (maxL := maxL) (ret := ret) ho hl hin hse hcode hy hK (by rw [hT]; exact hcB) hoB hclB hg (hsize.trans hml.symm) (argsL := As) (rest := rest) (fun sig h => hn.trans (hlen sig h)) hstack hW (by rw [hb]; exact hdg)
    (fun vm₁ hW₁ => ⟨hf.1, hf.2, hPc (T.setVm vm₁) hT hW₁⟩)
  dsimp only [Pt.U, Pt.locs, Pt.cells, Pt.slots] at X' e1 e2 h1 h2 h3 st
  subst h1; subst h2; subst h3
  exact ⟨v, (T.setVm vm₁).calling g' mk (Value.ref b :: As).toArray, t, U', L, hT, X', hL, e1, e2, hq, st⟩
section
variable {y : MethodName} {bytes cc : ByteArray} {maxL nL mc ms n index : Nat} {ret : Option FieldType} {ws : List Cond} {rm : Room} {Pc : Array Value → State → Prop} {Qc : Array Value → State → Outcome → State → Prop} {XC : String → State → State → Prop} {free : Addr → Prop} {Ts : List Cond} {own C : String} {b : Addr} {As rest : List Value} {g : JFrame}
theorem vx_runVX {hh : List (Nat × Nat × Nat × Nat)} (S : CallFix p m c cc nL s args Ts own) (hM : vx_Met l y ws rm Pc Qc XC mc ms free) (cw : vx_CVW R s args own C index y bytes maxL ret hh ws rm mc ms n) (hp : PreV s H C b Pc As)
    (hg : g.method = m) (hn : As.length = n) (hsize : g.locals.size = nL) (hstack : g.stack = As.reverse ++ .ref b :: rest) (hW : 2 * g.monitorRoom + (rest.map fun v => v.category).sum ≤ 8) (hdg : decode cc g.pc = .ok (.invokevirtual index, 3)) (hf : cells + mc ≤ R.cells ∧ slots + ms ≤ R.slots) :
    vx_Run p l e R s m args below meth c H locs cells slots mc ms g rest (Qc (Value.ref b :: As).toArray) XC free := by
  obtain ⟨⟨hrc, hrs, hfr, hlo, hws, hcw⟩, hcode, hini, hy, hlen, hl, hin, hse⟩ := cw
  have hK : vx_Back l R p e below s args y 3 8 (PreOf R mc ms Pc) (PostOf Qc mc ms free) (vx_Post XC mc ms free) := vx_backW (hh := hh) (bytes := bytes) (maxL := maxL) (ret := ret) hM hp.1 hrc hrs hfr hlo hws hcw (fun a' U hW => word_at hW (Or.inl (by first | rfl | simp [Cond.onTables, Cond.keeps, Cond.steady])) hini)
  obtain ⟨hx, hb, hml, ho, -⟩ := S
  obtain ⟨-, ⟨cellB, hcB, hoB, hclB⟩, hPc⟩ := hp
  intro T hT X
  rcases vx_callVX X hx (C := C) (hh := hh) (bytes := bytes) (maxL := maxL) (ret := ret) ho hl hin hse hcode hy hK (by rw [hT]; exact hcB) hoB hclB hg (hsize.trans hml.symm) (argsL := As) (rest := rest) (fun sig h => hn.trans (hlen sig h)) hstack hW (by rw [hb]; exact hdg)
    (fun vm₁ hW₁ => ⟨hf.1, hf.2, hPc (T.setVm vm₁) hT hW₁⟩) with ⟨v, vm₁, ⟨U', l2, c2, s2⟩, hW₁, X', ⟨g', mk, t, L, e1, e2, hq, h1, hL, h2, h3⟩, st⟩ | ⟨q, vm₁, ⟨U', l2, c2, s2⟩, hW₁, X', ⟨g', mk, t, L, E, ce, e1, e2, hq, hce, hcv, hcl, h1, hL, h2, h3⟩, st⟩
  · dsimp only [Pt.U, Pt.locs, Pt.cells, Pt.slots] at X' e1 e2 h1 h2 h3 st
    subst h1; subst h2; subst h3
    exact Or.inl ⟨v, (T.setVm vm₁).calling g' mk (Value.ref b :: As).toArray, t, U', L, hT, X', hL, e1, e2, hq, st⟩
  · dsimp only [Pt.U, Pt.locs, Pt.cells, Pt.slots] at X' e1 e2 h1 h2 h3 st hcl
    subst h1; subst h2; subst h3
    exact Or.inr ⟨q, (T.setVm vm₁).calling g' mk (Value.ref b :: As).toArray, t, U', L, E, ce, hT, X', hL, e1, e2, hq, hce, hcv, vx_cls hW₁ hcl, st⟩
theorem vx_runSX {hh : List (Nat × Nat × Nat × Nat)} (S : CallFix p m c cc nL s args Ts own) (hM : vx_Met l y ws rm Pc Qc XC mc ms free) (cw : vx_CSW R s args own index y bytes maxL ret hh ws rm mc ms n) (hp : PreS s H Pc As)
    (hg : g.method = m) (hn : As.length = n) (hsize : g.locals.size = nL) (hstack : g.stack = As.reverse ++ rest) (hW : 2 * g.monitorRoom + (rest.map fun v => v.category).sum ≤ 8) (hdg : decode cc g.pc = .ok (.invokestatic index, 3)) (hf : cells + mc ≤ R.cells ∧ slots + ms ≤ R.slots) :
    vx_Run p l e R s m args below meth c H locs cells slots mc ms g rest (Qc As.toArray) XC free := by
  obtain ⟨⟨hrc, hrs, hfr, hlo, hws, hcw⟩, hcode, hini, hy, hlen, hl, hstt⟩ := cw
  have hK : vx_Back l R p e below s args y 3 8 (PreOf R mc ms Pc) (PostOf Qc mc ms free) (vx_Post XC mc ms free) := vx_backW (hh := hh) (bytes := bytes) (maxL := maxL) (ret := ret) hM hp.1 hrc hrs hfr hlo hws hcw (fun a' U hW => word_at hW (Or.inl (by first | rfl | simp [Cond.onTables, Cond.keeps, Cond.steady])) hini)
  obtain ⟨hx, hb, hml, ho, -⟩ := S
  intro T hT X
  rcases vx_callSX X hx (hh := hh) (bytes := bytes) (maxL := maxL) (ret := ret) ho hl hstt hini hcode hy hK hg (hsize.trans hml.symm) (argsL := As) (rest := rest) (fun sig h => hn.trans (hlen sig h)) hstack hW (by rw [hb]; exact hdg)
    (fun vm₁ hW₁ => ⟨hf.1, hf.2, hp.2 (T.setVm vm₁) hT hW₁⟩) with ⟨v, vm₁, ⟨U', l2, c2, s2⟩, hW₁, X', ⟨g', mk, t, L, e1, e2, hq, h1, hL, h2, h3⟩, st⟩ | ⟨q, vm₁, ⟨U', l2, c2, s2⟩, hW₁, X', ⟨g', mk, t, L, E, ce, e1, e2, hq, hce, hcv, hcl, h1, hL, h2, h3⟩, st⟩
  · dsimp only [Pt.U, Pt.locs, Pt.cells, Pt.slots] at X' e1 e2 h1 h2 h3 st
    subst h1; subst h2; subst h3
    exact Or.inl ⟨v, (T.setVm vm₁).calling g' mk As.toArray, t, U', L, hT, X', hL, e1, e2, hq, st⟩
  · dsimp only [Pt.U, Pt.locs, Pt.cells, Pt.slots] at X' e1 e2 h1 h2 h3 st hcl
    subst h1; subst h2; subst h3
    exact Or.inr ⟨q, (T.setVm vm₁).calling g' mk As.toArray, t, U', L, E, ce, hT, X', hL, e1, e2, hq, hce, hcv, vx_cls hW₁ hcl, st⟩
end
end VXH
theorem vx_ofWH {l : Launch} {y : MethodName} {ws ws' : List Cond} {rm : Room} {Pc : Array Value → State → Prop} {Qc : Array Value → State → Outcome → State → Prop} {XC : String → State → State → Prop} {mc ms : Nat} {free : Addr → Prop} {cc : ByteArray} {maxL : Nat} {ret : Option FieldType} {hh : List (Nat × Nat × Nat × Nat)}
    (hy : plainName y.cls = true) (hw : ws = Cond.codeWith y cc maxL ret hh :: ws')
    (body : ∀ p e s m args below meth c s₁, BodyLoose p l y (headSpec ws rm) cc maxL ret e s m args below meth c s₁ → c.maxLocals = maxL → Pc args s →
      W p l e (headSpec ws rm).room s m args below meth c s.heap [] 0 0 (vx_MQ below Qc XC args s mc ms free) (entryFrame m args maxL)) : vx_Met l y ws rm Pc Qc XC mc ms free := by
  refine MetFree.of_bodyS (code := cc) (maxLocals := maxL) (ret := ret) hy ?_ ?_
  · intro args s m h hn
    obtain ⟨m9, meth, c, hn9, h1, h2, h3, h4, -, h5, h6, -⟩ := Cond.codeWith_spec (atoms_spec (ws := ws) h _ (by rw [hw]; exact List.mem_cons_self))
    cases hn.symm.trans hn9
    exact ⟨meth, c, h1, h2, h3, h4, h5, h6⟩
  · intro p e s m args below meth c s₁ B hml hP _
    have hh0 : s₁.heap = s.heap := by rw [B.state]; rfl
    obtain ⟨t, a1, o, b1, b2, b3⟩ := body p e s m args below meth c s₁ B hml hP s₁ hh0 (Stand.of_body B)
    exact ⟨t, o, a1, b1, b2, b3⟩
/-! ===== END ===== -/
end
section
/-! Names, by program out of the task's papers. -/
abbrev R_C : String := "EvenCurveKeys$Curve"
abbrev R_F : String := "EvenCurveKeys$Field"
abbrev R_O : String := "EvenCurveKeys$Form"
abbrev R_I : String := "EvenCurveKeys$Items"
abbrev R_S : String := "EvenCurveKeys$Scalars"
abbrev R_T : String := "EvenCurveKeys$Typed"
abbrev R_K : String := "EvenCurveKeys"
abbrev R_M : String := "EvenCurveKeysModel"
abbrev R_L : String := "EvenCurveKeysLaw"
abbrev y_K_init : MethodName := { cls := R_K, name := "<init>", desc := "()V" }
abbrev b_K_init : ByteArray := prog_1_method_1_code
abbrev y_I_init : MethodName := { cls := R_I, name := "<init>", desc := "()V" }
abbrev b_I_init : ByteArray := prog_5_method_1_code
abbrev y_T_init : MethodName := { cls := R_T, name := "<init>", desc := "()V" }
abbrev b_T_init : ByteArray := prog_7_method_1_code
abbrev y_K_even : MethodName := { cls := R_K, name := "even", desc := "(I)J" }
abbrev b_K_even : ByteArray := prog_1_method_5_code
abbrev y_C_pointAt : MethodName := { cls := R_C, name := "pointAt", desc := "(JZ)J" }
abbrev b_C_pointAt : ByteArray := prog_2_method_7_code
abbrev y_F_has : MethodName := { cls := R_F, name := "has", desc := "(J)Z" }
abbrev b_F_has : ByteArray := prog_3_method_2_code
abbrev y_F_rootIfAny : MethodName := { cls := R_F, name := "rootIfAny", desc := "(J)J" }
abbrev b_F_rootIfAny : ByteArray := prog_3_method_5_code
abbrev y_C_isOdd : MethodName := { cls := R_C, name := "isOdd", desc := "(J)Z" }
abbrev b_C_isOdd : ByteArray := prog_2_method_4_code
abbrev y_C_negative : MethodName := { cls := R_C, name := "negative", desc := "(J)J" }
abbrev b_C_negative : ByteArray := prog_2_method_5_code
abbrev y_C_xOf : MethodName := { cls := R_C, name := "xOf", desc := "(J)J" }
abbrev b_C_xOf : ByteArray := prog_2_method_2_code
abbrev y_C_yOf : MethodName := { cls := R_C, name := "yOf", desc := "(J)J" }
abbrev b_C_yOf : ByteArray := prog_2_method_3_code
abbrev y_C_toCode : MethodName := { cls := R_C, name := "toCode", desc := "(J)J" }
abbrev b_C_toCode : ByteArray := prog_2_method_8_code
abbrev y_K_mark : MethodName := { cls := R_K, name := "mark", desc := "()I" }
abbrev b_K_mark : ByteArray := prog_1_method_10_code
abbrev y_K_right : MethodName := { cls := R_K, name := "right", desc := "(J)Z" }
abbrev b_K_right : ByteArray := prog_1_method_16_code
abbrev y_I_balance : MethodName := { cls := R_I, name := "balance", desc := "(J)Z" }
abbrev b_I_balance : ByteArray := prog_5_method_5_code
abbrev y_S_has : MethodName := { cls := R_S, name := "has", desc := "(J)Z" }
abbrev b_S_has : ByteArray := prog_6_method_2_code
abbrev y_I_weight : MethodName := { cls := R_I, name := "weight", desc := "(JI)J" }
abbrev b_I_weight : ByteArray := prog_5_method_6_code
abbrev y_K_mix : MethodName := { cls := R_K, name := "mix", desc := "(JJ)J" }
abbrev b_K_mix : ByteArray := prog_1_method_29_code
abbrev y_K_challenge : MethodName := { cls := R_K, name := "challenge", desc := "(JJJ)J" }
abbrev b_K_challenge : ByteArray := prog_1_method_31_code
abbrev y_C_sumOfMultiples : MethodName := { cls := R_C, name := "sumOfMultiples", desc := "(JJJJ)J" }
abbrev b_C_sumOfMultiples : ByteArray := prog_2_method_12_code
abbrev y_C_multiple : MethodName := { cls := R_C, name := "multiple", desc := "(JJ)J" }
abbrev b_C_multiple : ByteArray := prog_2_method_11_code
abbrev y_C_sum : MethodName := { cls := R_C, name := "sum", desc := "(JJ)J" }
abbrev b_C_sum : ByteArray := prog_2_method_10_code
abbrev y_F_quotient : MethodName := { cls := R_F, name := "quotient", desc := "(JJ)J" }
abbrev b_F_quotient : ByteArray := prog_3_method_4_code
abbrev y_F_reduced : MethodName := { cls := R_F, name := "reduced", desc := "(J)J" }
abbrev b_F_reduced : ByteArray := prog_3_method_3_code
abbrev y_K_inverse : MethodName := { cls := R_K, name := "inverse", desc := "(JJ)J" }
abbrev b_K_inverse : ByteArray := prog_1_method_32_code
abbrev y_I_clear : MethodName := { cls := R_I, name := "clear", desc := "()V" }
abbrev b_I_clear : ByteArray := prog_5_method_4_code
abbrev y_K_read : MethodName := { cls := R_K, name := "read", desc := "()J" }
abbrev b_K_read : ByteArray := prog_1_method_20_code
abbrev y_T_numbers : MethodName := { cls := R_T, name := "numbers", desc := "()J" }
abbrev b_T_numbers : ByteArray := prog_7_method_5_code
abbrev y_T_sizeAt : MethodName := { cls := R_T, name := "sizeAt", desc := "(I)I" }
abbrev b_T_sizeAt : ByteArray := prog_7_method_6_code
abbrev y_T_numberAt : MethodName := { cls := R_T, name := "numberAt", desc := "(I)I" }
abbrev b_T_numberAt : ByteArray := prog_7_method_7_code
abbrev y_T_areFormOf : MethodName := { cls := R_T, name := "areFormOf", desc := "(II)Z" }
abbrev b_T_areFormOf : ByteArray := prog_7_method_8_code
abbrev y_O_length : MethodName := { cls := R_O, name := "length", desc := "(II)I" }
abbrev b_O_length : ByteArray := prog_4_method_3_code
abbrev y_O_bytesOf : MethodName := { cls := R_O, name := "bytesOf", desc := "(I)I" }
abbrev b_O_bytesOf : ByteArray := prog_4_method_2_code
abbrev y_O_byteAt : MethodName := { cls := R_O, name := "byteAt", desc := "(III)I" }
abbrev b_O_byteAt : ByteArray := prog_4_method_4_code
abbrev y_O_numberByteAt : MethodName := { cls := R_O, name := "numberByteAt", desc := "(II)I" }
abbrev b_O_numberByteAt : ByteArray := prog_4_method_5_code
abbrev y_T_clear : MethodName := { cls := R_T, name := "clear", desc := "()V" }
abbrev b_T_clear : ByteArray := prog_7_method_4_code
abbrev y_L_secret : MethodName := { cls := R_L, name := "secret", desc := "(LEvenCurveKeys;II[J)I" }
abbrev b_L_secret : ByteArray := method_3_code
abbrev y_K_secret : MethodName := { cls := R_K, name := "secret", desc := "(II)J" }
abbrev b_K_secret : ByteArray := prog_1_method_2_code
abbrev y_K_needSlot : MethodName := { cls := R_K, name := "needSlot", desc := "(I)V" }
abbrev b_K_needSlot : ByteArray := prog_1_method_21_code
abbrev y_S_isUnit : MethodName := { cls := R_S, name := "isUnit", desc := "(J)Z" }
abbrev b_S_isUnit : ByteArray := prog_6_method_3_code
abbrev y_K_needArgument : MethodName := { cls := R_K, name := "needArgument", desc := "(Z)V" }
abbrev b_K_needArgument : ByteArray := prog_1_method_22_code
abbrev y_K_fill : MethodName := { cls := R_K, name := "fill", desc := "(IJJ)J" }
abbrev b_K_fill : ByteArray := prog_1_method_25_code
abbrev y_L_open : MethodName := { cls := R_L, name := "open", desc := "(LEvenCurveKeys;IJ)I" }
abbrev b_L_open : ByteArray := method_4_code
abbrev y_K_open : MethodName := { cls := R_K, name := "open", desc := "(IJ)V" }
abbrev b_K_open : ByteArray := prog_1_method_3_code
abbrev y_C_fromCode : MethodName := { cls := R_C, name := "fromCode", desc := "(J)J" }
abbrev b_C_fromCode : ByteArray := prog_2_method_9_code
abbrev y_L_code : MethodName := { cls := R_L, name := "code", desc := "(LEvenCurveKeys;I[J)I" }
abbrev b_L_code : ByteArray := method_5_code
abbrev y_K_code : MethodName := { cls := R_K, name := "code", desc := "(I)J" }
abbrev b_K_code : ByteArray := prog_1_method_4_code
abbrev y_L_tweak : MethodName := { cls := R_L, name := "tweak", desc := "(LEvenCurveKeys;IIZ[J)I" }
abbrev b_L_tweak : ByteArray := method_6_code
abbrev y_K_tweak : MethodName := { cls := R_K, name := "tweak", desc := "(IIZ)J" }
abbrev b_K_tweak : ByteArray := prog_1_method_6_code
abbrev y_K_pointOf : MethodName := { cls := R_K, name := "pointOf", desc := "(I)J" }
abbrev b_K_pointOf : ByteArray := prog_1_method_23_code
abbrev y_K_movedSecret : MethodName := { cls := R_K, name := "movedSecret", desc := "(JJZ)J" }
abbrev b_K_movedSecret : ByteArray := prog_1_method_26_code
abbrev y_L_combine : MethodName := { cls := R_L, name := "combine", desc := "(LEvenCurveKeys;III[J)I" }
abbrev b_L_combine : ByteArray := method_7_code
abbrev y_K_combine : MethodName := { cls := R_K, name := "combine", desc := "(III)J" }
abbrev b_K_combine : ByteArray := prog_1_method_7_code
abbrev y_L_linear : MethodName := { cls := R_L, name := "linear", desc := "(LEvenCurveKeys;III[J)I" }
abbrev b_L_linear : ByteArray := method_8_code
abbrev y_K_linear : MethodName := { cls := R_K, name := "linear", desc := "(III)J" }
abbrev b_K_linear : ByteArray := prog_1_method_8_code
abbrev y_L_sign : MethodName := { cls := R_L, name := "sign", desc := "(LEvenCurveKeys;IJ[J)I" }
abbrev b_L_sign : ByteArray := method_9_code
abbrev y_K_sign : MethodName := { cls := R_K, name := "sign", desc := "(IJ)J" }
abbrev b_K_sign : ByteArray := prog_1_method_9_code
abbrev y_K_secretOf : MethodName := { cls := R_K, name := "secretOf", desc := "(I)J" }
abbrev b_K_secretOf : ByteArray := prog_1_method_24_code
abbrev y_K_digest : MethodName := { cls := R_K, name := "digest", desc := "(J)J" }
abbrev b_K_digest : ByteArray := prog_1_method_30_code
abbrev y_S_quotient : MethodName := { cls := R_S, name := "quotient", desc := "(JJ)J" }
abbrev b_S_quotient : ByteArray := prog_6_method_4_code
abbrev y_K_markOf : MethodName := { cls := R_K, name := "markOf", desc := "(JJ)I" }
abbrev b_K_markOf : ByteArray := prog_1_method_27_code
abbrev y_L_good : MethodName := { cls := R_L, name := "good", desc := "(LEvenCurveKeys;IJII[J)I" }
abbrev b_L_good : ByteArray := method_10_code
abbrev y_K_good : MethodName := { cls := R_K, name := "good", desc := "(IJII)Z" }
abbrev b_K_good : ByteArray := prog_1_method_11_code
abbrev y_L_recover : MethodName := { cls := R_L, name := "recover", desc := "(LEvenCurveKeys;IJIII[J)I" }
abbrev b_L_recover : ByteArray := method_11_code
abbrev y_K_recover : MethodName := { cls := R_K, name := "recover", desc := "(IJIII)J" }
abbrev b_K_recover : ByteArray := prog_1_method_12_code
abbrev y_L_prove : MethodName := { cls := R_L, name := "prove", desc := "(LEvenCurveKeys;IJJ[J)I" }
abbrev b_L_prove : ByteArray := method_12_code
abbrev y_K_prove : MethodName := { cls := R_K, name := "prove", desc := "(IJJ)J" }
abbrev b_K_prove : ByteArray := prog_1_method_13_code
abbrev y_K_evenScalar : MethodName := { cls := R_K, name := "evenScalar", desc := "(JJ)J" }
abbrev b_K_evenScalar : ByteArray := prog_1_method_28_code
abbrev y_L_holds : MethodName := { cls := R_L, name := "holds", desc := "(LEvenCurveKeys;IJII[J)I" }
abbrev b_L_holds : ByteArray := method_13_code
abbrev y_K_holds : MethodName := { cls := R_K, name := "holds", desc := "(IJII)Z" }
abbrev b_K_holds : ByteArray := prog_1_method_14_code
abbrev y_C_evenOf : MethodName := { cls := R_C, name := "evenOf", desc := "(J)J" }
abbrev b_C_evenOf : ByteArray := prog_2_method_6_code
abbrev y_L_bundle : MethodName := { cls := R_L, name := "bundle", desc := "(LEvenCurveKeys;IJII[J)I" }
abbrev b_L_bundle : ByteArray := method_14_code
abbrev y_K_bundle : MethodName := { cls := R_K, name := "bundle", desc := "(IJII)I" }
abbrev b_K_bundle : ByteArray := prog_1_method_15_code
abbrev y_I_areFull : MethodName := { cls := R_I, name := "areFull", desc := "()Z" }
abbrev b_I_areFull : ByteArray := prog_5_method_2_code
abbrev y_I_put : MethodName := { cls := R_I, name := "put", desc := "(JJII)I" }
abbrev b_I_put : ByteArray := prog_5_method_3_code
abbrev y_L_agree : MethodName := { cls := R_L, name := "agree", desc := "(LEvenCurveKeys;II[J)I" }
abbrev b_L_agree : ByteArray := method_15_code
abbrev y_K_agree : MethodName := { cls := R_K, name := "agree", desc := "(II)J" }
abbrev b_K_agree : ByteArray := prog_1_method_17_code
abbrev y_L_written : MethodName := { cls := R_L, name := "written", desc := "(LEvenCurveKeys;III[J)I" }
abbrev b_L_written : ByteArray := method_16_code
abbrev y_K_written : MethodName := { cls := R_K, name := "written", desc := "(III)I" }
abbrev b_K_written : ByteArray := prog_1_method_18_code
abbrev y_L_type : MethodName := { cls := R_L, name := "type", desc := "(LEvenCurveKeys;I[J)I" }
abbrev b_L_type : ByteArray := method_17_code
abbrev y_K_type : MethodName := { cls := R_K, name := "type", desc := "(I)I" }
abbrev b_K_type : ByteArray := prog_1_method_19_code
abbrev y_T_isFull : MethodName := { cls := R_T, name := "isFull", desc := "()Z" }
abbrev b_T_isFull : ByteArray := prog_7_method_2_code
abbrev y_T_put : MethodName := { cls := R_T, name := "put", desc := "(I)I" }
abbrev b_T_put : ByteArray := prog_7_method_3_code
abbrev y_M_init : MethodName := { cls := R_M, name := "<init>", desc := "()V" }
abbrev b_M_init : ByteArray := prog_9_method_1_code
abbrev y_M_thrown : MethodName := { cls := R_M, name := "thrown", desc := "()I" }
abbrev b_M_thrown : ByteArray := prog_9_method_2_code
abbrev y_M_secret : MethodName := { cls := R_M, name := "secret", desc := "(II)J" }
abbrev b_M_secret : ByteArray := prog_9_method_20_code
abbrev y_M_isSlot : MethodName := { cls := R_M, name := "isSlot", desc := "(I)Z" }
abbrev b_M_isSlot : ByteArray := prog_9_method_17_code
abbrev y_M_g : MethodName := { cls := R_M, name := "g", desc := "()J" }
abbrev b_M_g : ByteArray := prog_9_method_12_code
abbrev y_M_times : MethodName := { cls := R_M, name := "times", desc := "(JJ)J" }
abbrev b_M_times : ByteArray := prog_9_method_11_code
abbrev y_M_sum : MethodName := { cls := R_M, name := "sum", desc := "(JJ)J" }
abbrev b_M_sum : ByteArray := prog_9_method_10_code
abbrev y_M_xOf : MethodName := { cls := R_M, name := "xOf", desc := "(J)J" }
abbrev b_M_xOf : ByteArray := prog_9_method_8_code
abbrev y_M_yOf : MethodName := { cls := R_M, name := "yOf", desc := "(J)J" }
abbrev b_M_yOf : ByteArray := prog_9_method_9_code
abbrev y_M_quotient : MethodName := { cls := R_M, name := "quotient", desc := "(JJJ)J" }
abbrev b_M_quotient : ByteArray := prog_9_method_5_code
abbrev y_M_mod : MethodName := { cls := R_M, name := "mod", desc := "(JJ)J" }
abbrev b_M_mod : ByteArray := prog_9_method_3_code
abbrev y_M_power : MethodName := { cls := R_M, name := "power", desc := "(JJJ)J" }
abbrev b_M_power : ByteArray := prog_9_method_4_code
abbrev y_M_codeOf : MethodName := { cls := R_M, name := "codeOf", desc := "(J)J" }
abbrev b_M_codeOf : ByteArray := prog_9_method_15_code
abbrev y_M_open : MethodName := { cls := R_M, name := "open", desc := "(IJ)V" }
abbrev b_M_open : ByteArray := prog_9_method_22_code
abbrev y_M_pointOf : MethodName := { cls := R_M, name := "pointOf", desc := "(J)J" }
abbrev b_M_pointOf : ByteArray := prog_9_method_16_code
abbrev y_M_lift : MethodName := { cls := R_M, name := "lift", desc := "(JZ)J" }
abbrev b_M_lift : ByteArray := prog_9_method_14_code
abbrev y_M_lay : MethodName := { cls := R_M, name := "lay", desc := "(IJ)V" }
abbrev b_M_lay : ByteArray := prog_9_method_21_code
abbrev y_M_code : MethodName := { cls := R_M, name := "code", desc := "(I)J" }
abbrev b_M_code : ByteArray := prog_9_method_23_code
abbrev y_M_even : MethodName := { cls := R_M, name := "even", desc := "(I)J" }
abbrev b_M_even : ByteArray := prog_9_method_24_code
abbrev y_M_tweak : MethodName := { cls := R_M, name := "tweak", desc := "(IIZ)J" }
abbrev b_M_tweak : ByteArray := prog_9_method_25_code
abbrev y_M_full : MethodName := { cls := R_M, name := "full", desc := "(I)Z" }
abbrev b_M_full : ByteArray := prog_9_method_18_code
abbrev y_M_isScalar : MethodName := { cls := R_M, name := "isScalar", desc := "(I)Z" }
abbrev b_M_isScalar : ByteArray := prog_9_method_19_code
abbrev y_M_combine : MethodName := { cls := R_M, name := "combine", desc := "(III)J" }
abbrev b_M_combine : ByteArray := prog_9_method_26_code
abbrev y_M_linear : MethodName := { cls := R_M, name := "linear", desc := "(III)J" }
abbrev b_M_linear : ByteArray := prog_9_method_27_code
abbrev y_M_sign : MethodName := { cls := R_M, name := "sign", desc := "(IJ)J" }
abbrev b_M_sign : ByteArray := prog_9_method_29_code
abbrev y_M_noSecret : MethodName := { cls := R_M, name := "noSecret", desc := "(I)I" }
abbrev b_M_noSecret : ByteArray := prog_9_method_28_code
abbrev y_M_digest : MethodName := { cls := R_M, name := "digest", desc := "(J)J" }
abbrev b_M_digest : ByteArray := prog_9_method_7_code
abbrev y_M_h : MethodName := { cls := R_M, name := "h", desc := "(JJ)J" }
abbrev b_M_h : ByteArray := prog_9_method_6_code
abbrev y_M_odd : MethodName := { cls := R_M, name := "odd", desc := "(J)Z" }
abbrev b_M_odd : ByteArray := prog_9_method_13_code
abbrev y_M_mark : MethodName := { cls := R_M, name := "mark", desc := "()I" }
abbrev b_M_mark : ByteArray := prog_9_method_30_code
abbrev y_M_good : MethodName := { cls := R_M, name := "good", desc := "(IJII)Z" }
abbrev b_M_good : ByteArray := prog_9_method_32_code
abbrev y_M_noPoint : MethodName := { cls := R_M, name := "noPoint", desc := "(I)I" }
abbrev b_M_noPoint : ByteArray := prog_9_method_31_code
abbrev y_M_recover : MethodName := { cls := R_M, name := "recover", desc := "(IJIII)J" }
abbrev b_M_recover : ByteArray := prog_9_method_33_code
abbrev y_M_prove : MethodName := { cls := R_M, name := "prove", desc := "(IJJ)J" }
abbrev b_M_prove : ByteArray := prog_9_method_35_code
abbrev y_M_challenge : MethodName := { cls := R_M, name := "challenge", desc := "(JJJ)J" }
abbrev b_M_challenge : ByteArray := prog_9_method_34_code
abbrev y_M_holds : MethodName := { cls := R_M, name := "holds", desc := "(IJII)Z" }
abbrev b_M_holds : ByteArray := prog_9_method_36_code
abbrev y_M_bundle : MethodName := { cls := R_M, name := "bundle", desc := "(IJII)I" }
abbrev b_M_bundle : ByteArray := prog_9_method_37_code
abbrev y_M_right : MethodName := { cls := R_M, name := "right", desc := "(J)Z" }
abbrev b_M_right : ByteArray := prog_9_method_38_code
abbrev y_M_agree : MethodName := { cls := R_M, name := "agree", desc := "(II)J" }
abbrev b_M_agree : ByteArray := prog_9_method_39_code
abbrev y_M_written : MethodName := { cls := R_M, name := "written", desc := "(III)I" }
abbrev b_M_written : ByteArray := prog_9_method_44_code
abbrev y_M_layForm : MethodName := { cls := R_M, name := "layForm", desc := "(II)V" }
abbrev b_M_layForm : ByteArray := prog_9_method_43_code
abbrev y_M_layByte : MethodName := { cls := R_M, name := "layByte", desc := "(I)V" }
abbrev b_M_layByte : ByteArray := prog_9_method_41_code
abbrev y_M_bytesOf : MethodName := { cls := R_M, name := "bytesOf", desc := "(I)I" }
abbrev b_M_bytesOf : ByteArray := prog_9_method_40_code
abbrev y_M_layNumber : MethodName := { cls := R_M, name := "layNumber", desc := "(I)V" }
abbrev b_M_layNumber : ByteArray := prog_9_method_42_code
abbrev y_M_type : MethodName := { cls := R_M, name := "type", desc := "(I)I" }
abbrev b_M_type : ByteArray := prog_9_method_45_code
abbrev y_M_read : MethodName := { cls := R_M, name := "read", desc := "()J" }
abbrev b_M_read : ByteArray := prog_9_method_49_code
abbrev y_M_numberAt : MethodName := { cls := R_M, name := "numberAt", desc := "(I)I" }
abbrev b_M_numberAt : ByteArray := prog_9_method_47_code
abbrev y_M_byteAt : MethodName := { cls := R_M, name := "byteAt", desc := "(I)I" }
abbrev b_M_byteAt : ByteArray := prog_9_method_46_code
abbrev y_M_same : MethodName := { cls := R_M, name := "same", desc := "(II)Z" }
abbrev b_M_same : ByteArray := prog_9_method_48_code
abbrev y_L_law : MethodName := { cls := R_L, name := "law", desc := "([I)Z" }
abbrev b_L_law : ByteArray := code
/-- the tables' words that stay -/
def wa : List Cond := lw_tbl.filter goodWord
theorem wa_in {w : Cond} (h : w ∈ tables_1) (hg : goodWord w = true) : w ∈ wa := List.mem_filter.mpr ⟨List.mem_append_right _ h, hg⟩
theorem wa_1 {w : Cond} (i : Nat) (h : tables_1_1[i]? = some w) (hg : goodWord w = true) : w ∈ wa := wa_in (List.mem_append_left _ (List.mem_of_getElem? h)) hg
theorem wa_2 {w : Cond} (i : Nat) (h : tables_1_2[i]? = some w) (hg : goodWord w = true) : w ∈ wa := wa_in (List.mem_append_right _ (List.mem_append_left _ (List.mem_of_getElem? h))) hg
theorem wa_3 {w : Cond} (i : Nat) (h : tables_1_3[i]? = some w) (hg : goodWord w = true) : w ∈ wa := wa_in (List.mem_append_right _ (List.mem_append_right _ (List.mem_append_left _ (List.mem_of_getElem? h)))) hg
theorem wa_4 {w : Cond} (i : Nat) (h : tables_1_4[i]? = some w) (hg : goodWord w = true) : w ∈ wa := wa_in (List.mem_append_right _ (List.mem_append_right _ (List.mem_append_right _ (List.mem_of_getElem? h)))) hg
theorem wa_good {w : Cond} (h : w ∈ wa) : goodWord w = true := (List.mem_filter.mp h).2
theorem ga_S {c0 c1 : Cond} {own : String} {idx : Nat} {y : MethodName} (h1 : Cond.methodLink own idx y ∈ wa) (h2 : Cond.static y ∈ wa) (h3 : Cond.initialized y.cls ∈ wa) (h4 : c1 ∈ wa) : GoodIn (c0 :: wa) (va_wsS own idx y (c1 :: wa)) := by
  have hg : ∀ w, w ∈ wa → w ∈ c0 :: wa ∧ ((w.onTables && w.keeps) = true ∨ ∃ ty, w = .arrayClass ty) := fun w h => ⟨List.mem_cons_of_mem _ h, good_of_word (wa_good h)⟩
  intro w hw
  unfold va_wsS at hw
  simp only [List.cons_append, List.nil_append, List.mem_cons] at hw
  rcases hw with h | h | h | h | h
  · rw [h]; exact hg _ h1
  · rw [h]; exact hg _ h2
  · rw [h]; exact hg _ h3
  · rw [h]; exact hg _ h4
  · exact hg _ h
theorem ga_N {c0 c1 : Cond} (h4 : c1 ∈ wa) : GoodIn (c0 :: wa) (c1 :: wa) := by
  intro w hw
  rcases List.mem_cons.mp hw with h | h
  · rw [h]; exact ⟨List.mem_cons_of_mem _ h4, good_of_word (wa_good h4)⟩
  · exact ⟨List.mem_cons_of_mem _ h, good_of_word (wa_good h)⟩
def nwl : List Cond := [(Jvm.Cond.methodLinkNest "EvenCurveKeys" (18 : Nat) ({ cls := "EvenCurveKeys$Items", name := "<init>", desc := "()V" } : Jvm.MethodName) "EvenCurveKeys"), (Jvm.Cond.methodLinkNest "EvenCurveKeys" (25 : Nat) ({ cls := "EvenCurveKeys$Typed", name := "<init>", desc := "()V" } : Jvm.MethodName) "EvenCurveKeys"), (Jvm.Cond.methodLinkNest "EvenCurveKeys$Items" (71 : Nat) ({ cls := "EvenCurveKeys", name := "mix", desc := "(JJ)J" } : Jvm.MethodName) "EvenCurveKeys"), (Jvm.Cond.methodLinkNest "EvenCurveKeys$Items" (52 : Nat) ({ cls := "EvenCurveKeys", name := "challenge", desc := "(JJJ)J" } : Jvm.MethodName) "EvenCurveKeys"), (Jvm.Cond.methodLinkNest "EvenCurveKeys$Field" (15 : Nat) ({ cls := "EvenCurveKeys", name := "inverse", desc := "(JJ)J" } : Jvm.MethodName) "EvenCurveKeys"), (Jvm.Cond.methodLinkNest "EvenCurveKeys$Scalars" (11 : Nat) ({ cls := "EvenCurveKeys", name := "inverse", desc := "(JJ)J" } : Jvm.MethodName) "EvenCurveKeys")]
def nw (U : State) : Prop := ∀ w ∈ nwl, va_Nw w U
theorem nw_on : ∀ w ∈ nwl, w.onTables = true := by decide +kernel
theorem nw_vm {u U : State} (h : u.vm = U.vm) (hn : nw u) : nw U := fun w hw => va_tabs (nw_on w hw) h (hn w hw)
theorem nw_warm {s U : State} (hW : s.WarmedH U.vm) (hn : nw s) : nw U := by
  intro w hw
  have h1 := hn w hw
  simp only [nwl, List.mem_cons, List.not_mem_nil, or_false] at hw
  rcases hw with rfl | rfl | rfl | rfl | rfl | rfl <;> exact va_Nw.warmM hW h1
/-- a start that asks for no cells -/
def pcs (As : List Value) : Array Value → State → Prop := fun v U => v = As.toArray ∧ nw U
theorem pcs_pre {s : State} {H : Heap} {As : List Value} (hN : nw s) : PreS s H (pcs As) As := ⟨fun a U g mk q => ⟨q.1, nw_vm (u := U) (U := U.calling g mk a) rfl q.2⟩, fun U hU hW => ⟨rfl, nw_warm hW hN⟩⟩
theorem nl_0 : (Jvm.Cond.methodLinkNest "EvenCurveKeys" (18 : Nat) ({ cls := "EvenCurveKeys$Items", name := "<init>", desc := "()V" } : Jvm.MethodName) "EvenCurveKeys") ∈ nwl := List.mem_of_getElem? (i := 0) rfl
theorem nl_1 : (Jvm.Cond.methodLinkNest "EvenCurveKeys" (25 : Nat) ({ cls := "EvenCurveKeys$Typed", name := "<init>", desc := "()V" } : Jvm.MethodName) "EvenCurveKeys") ∈ nwl := List.mem_of_getElem? (i := 1) rfl
theorem nl_2 : (Jvm.Cond.methodLinkNest "EvenCurveKeys$Items" (71 : Nat) ({ cls := "EvenCurveKeys", name := "mix", desc := "(JJ)J" } : Jvm.MethodName) "EvenCurveKeys") ∈ nwl := List.mem_of_getElem? (i := 2) rfl
theorem nl_3 : (Jvm.Cond.methodLinkNest "EvenCurveKeys$Items" (52 : Nat) ({ cls := "EvenCurveKeys", name := "challenge", desc := "(JJJ)J" } : Jvm.MethodName) "EvenCurveKeys") ∈ nwl := List.mem_of_getElem? (i := 3) rfl
theorem nl_4 : (Jvm.Cond.methodLinkNest "EvenCurveKeys$Field" (15 : Nat) ({ cls := "EvenCurveKeys", name := "inverse", desc := "(JJ)J" } : Jvm.MethodName) "EvenCurveKeys") ∈ nwl := List.mem_of_getElem? (i := 4) rfl
theorem nl_5 : (Jvm.Cond.methodLinkNest "EvenCurveKeys$Scalars" (11 : Nat) ({ cls := "EvenCurveKeys", name := "inverse", desc := "(JJ)J" } : Jvm.MethodName) "EvenCurveKeys") ∈ nwl := List.mem_of_getElem? (i := 5) rfl
end
section
theorem ww_0 : (Jvm.Cond.initialized "EvenCurveKeysLaw") ∈ wa := wa_1 0 (by decide +kernel) rfl
theorem ww_1 : (Jvm.Cond.initialized "EvenCurveKeys") ∈ wa := wa_1 1 (by decide +kernel) rfl
theorem ww_2 : (Jvm.Cond.initialized "EvenCurveKeys$Items") ∈ wa := wa_1 2 (by decide +kernel) rfl
theorem ww_3 : (Jvm.Cond.initialized "EvenCurveKeys$Typed") ∈ wa := wa_1 3 (by decide +kernel) rfl
theorem ww_4 : (Jvm.Cond.initialized "EvenCurveKeysModel") ∈ wa := wa_1 4 (by decide +kernel) rfl
theorem ww_5 : (Jvm.Cond.initialized "java/lang/Throwable") ∈ wa := wa_1 5 (by decide +kernel) rfl
theorem ww_6 : (Jvm.Cond.initialized "java/lang/Exception") ∈ wa := wa_1 6 (by decide +kernel) rfl
theorem ww_7 : (Jvm.Cond.initialized "java/lang/RuntimeException") ∈ wa := wa_1 7 (by decide +kernel) rfl
theorem ww_8 : (Jvm.Cond.initialized "java/lang/IndexOutOfBoundsException") ∈ wa := wa_1 8 (by decide +kernel) rfl
theorem ww_9 : (Jvm.Cond.initialized "EvenCurveKeys$Scalars") ∈ wa := wa_1 9 (by decide +kernel) rfl
theorem ww_10 : (Jvm.Cond.initialized "java/lang/IllegalArgumentException") ∈ wa := wa_1 10 (by decide +kernel) rfl
theorem ww_11 : (Jvm.Cond.initialized "EvenCurveKeys$Curve") ∈ wa := wa_1 11 (by decide +kernel) rfl
theorem ww_12 : (Jvm.Cond.initialized "EvenCurveKeys$Field") ∈ wa := wa_1 12 (by decide +kernel) rfl
theorem ww_13 : (Jvm.Cond.initialized "java/util/NoSuchElementException") ∈ wa := wa_1 13 (by decide +kernel) rfl
theorem ww_14 : (Jvm.Cond.initialized "java/lang/IllegalStateException") ∈ wa := wa_1 14 (by decide +kernel) rfl
theorem ww_15 : (Jvm.Cond.initialized "java/lang/UnsupportedOperationException") ∈ wa := wa_1 15 (by decide +kernel) rfl
theorem ww_16 : (Jvm.Cond.initialized "EvenCurveKeys$Form") ∈ wa := wa_1 16 (by decide +kernel) rfl
theorem ww_17 : (Jvm.Cond.classLink "EvenCurveKeysLaw" (8 : Nat) "EvenCurveKeys") ∈ wa := wa_1 17 (by decide +kernel) rfl
theorem ww_18 : (Jvm.Cond.instantiable "EvenCurveKeys" (5 : Nat)) ∈ wa := wa_1 18 (by decide +kernel) rfl
theorem ww_19 : (Jvm.Cond.methodLink "EvenCurveKeysLaw" (76 : Nat) ({ cls := "EvenCurveKeys", name := "<init>", desc := "()V" } : Jvm.MethodName)) ∈ wa := wa_1 19 (by decide +kernel) rfl
theorem ww_20 : (Jvm.Cond.instanceMethod ({ cls := "EvenCurveKeys", name := "<init>", desc := "()V" } : Jvm.MethodName)) ∈ wa := wa_1 20 (by decide +kernel) rfl
theorem ww_21 : (Jvm.Cond.code ({ cls := "EvenCurveKeys", name := "<init>", desc := "()V" } : Jvm.MethodName) prog_1_method_1_code (1 : Nat) (Option.none : Option Jvm.ClassFile.FieldType)) ∈ wa := wa_1 21 (by decide +kernel) rfl
theorem ww_22 : (Jvm.Cond.methodLink "EvenCurveKeys" (1 : Nat) ({ cls := "java/lang/Object", name := "<init>", desc := "()V" } : Jvm.MethodName)) ∈ wa := wa_1 22 (by decide +kernel) rfl
theorem ww_23 : (Jvm.Cond.instanceMethod ({ cls := "java/lang/Object", name := "<init>", desc := "()V" } : Jvm.MethodName)) ∈ wa := wa_1 23 (by decide +kernel) rfl
theorem ww_24 : (Jvm.Cond.code ({ cls := "java/lang/Object", name := "<init>", desc := "()V" } : Jvm.MethodName) object_method_1_code (1 : Nat) (Option.none : Option Jvm.ClassFile.FieldType)) ∈ wa := wa_1 24 (by decide +kernel) rfl
theorem ww_25 : (Jvm.Cond.classLink "EvenCurveKeys" (16 : Nat) "EvenCurveKeys$Items") ∈ wa := wa_1 25 (by decide +kernel) rfl
theorem ww_26 : (Jvm.Cond.instantiable "EvenCurveKeys$Items" (5 : Nat)) ∈ wa := wa_1 26 (by decide +kernel) rfl
theorem ww_28 : (Jvm.Cond.instanceMethod ({ cls := "EvenCurveKeys$Items", name := "<init>", desc := "()V" } : Jvm.MethodName)) ∈ wa := wa_1 28 (by decide +kernel) rfl
theorem ww_29 : (Jvm.Cond.code ({ cls := "EvenCurveKeys$Items", name := "<init>", desc := "()V" } : Jvm.MethodName) prog_5_method_1_code (1 : Nat) (Option.none : Option Jvm.ClassFile.FieldType)) ∈ wa := wa_1 29 (by decide +kernel) rfl
theorem ww_30 : (Jvm.Cond.methodLink "EvenCurveKeys$Items" (3 : Nat) ({ cls := "java/lang/Object", name := "<init>", desc := "()V" } : Jvm.MethodName)) ∈ wa := wa_1 30 (by decide +kernel) rfl
theorem ww_31 : (Jvm.Cond.fieldLink "EvenCurveKeys$Items" (9 : Nat) "EvenCurveKeys$Items" "evens" "[J") ∈ wa := wa_1 31 (by decide +kernel) rfl
theorem ww_32 : (Jvm.Cond.fieldLink "EvenCurveKeys$Items" (15 : Nat) "EvenCurveKeys$Items" "messages" "[J") ∈ wa := wa_1 32 (by decide +kernel) rfl
theorem ww_33 : (Jvm.Cond.fieldLink "EvenCurveKeys$Items" (18 : Nat) "EvenCurveKeys$Items" "rxs" "[I") ∈ wa := wa_1 33 (by decide +kernel) rfl
theorem ww_34 : (Jvm.Cond.fieldLink "EvenCurveKeys$Items" (22 : Nat) "EvenCurveKeys$Items" "ss" "[I") ∈ wa := wa_1 34 (by decide +kernel) rfl
theorem ww_35 : (Jvm.Cond.fieldLink "EvenCurveKeys$Items" (25 : Nat) "EvenCurveKeys$Items" "count" "I") ∈ wa := wa_1 35 (by decide +kernel) rfl
theorem ww_47 : (Jvm.Cond.arrayClass Jvm.ClassFile.FieldType.long) ∈ wa := wa_1 47 (by decide +kernel) rfl
theorem ww_48 : (Jvm.Cond.arrayClass Jvm.ClassFile.FieldType.int) ∈ wa := wa_1 48 (by decide +kernel) rfl
theorem ww_49 : (Jvm.Cond.classLink "EvenCurveKeys" (23 : Nat) "EvenCurveKeys$Typed") ∈ wa := wa_1 49 (by decide +kernel) rfl
theorem ww_50 : (Jvm.Cond.instantiable "EvenCurveKeys$Typed" (2 : Nat)) ∈ wa := wa_1 50 (by decide +kernel) rfl
theorem ww_52 : (Jvm.Cond.instanceMethod ({ cls := "EvenCurveKeys$Typed", name := "<init>", desc := "()V" } : Jvm.MethodName)) ∈ wa := wa_1 52 (by decide +kernel) rfl
theorem ww_53 : (Jvm.Cond.code ({ cls := "EvenCurveKeys$Typed", name := "<init>", desc := "()V" } : Jvm.MethodName) prog_7_method_1_code (1 : Nat) (Option.none : Option Jvm.ClassFile.FieldType)) ∈ wa := wa_1 53 (by decide +kernel) rfl
theorem ww_54 : (Jvm.Cond.methodLink "EvenCurveKeys$Typed" (3 : Nat) ({ cls := "java/lang/Object", name := "<init>", desc := "()V" } : Jvm.MethodName)) ∈ wa := wa_1 54 (by decide +kernel) rfl
theorem ww_55 : (Jvm.Cond.fieldLink "EvenCurveKeys$Typed" (9 : Nat) "EvenCurveKeys$Typed" "bytes" "[I") ∈ wa := wa_1 55 (by decide +kernel) rfl
theorem ww_56 : (Jvm.Cond.fieldLink "EvenCurveKeys$Typed" (15 : Nat) "EvenCurveKeys$Typed" "count" "I") ∈ wa := wa_1 56 (by decide +kernel) rfl
theorem ww_62 : (Jvm.Cond.fieldLink "EvenCurveKeys" (9 : Nat) "EvenCurveKeys" "points" "[J") ∈ wa := wa_1 62 (by decide +kernel) rfl
theorem ww_63 : (Jvm.Cond.fieldLink "EvenCurveKeys" (13 : Nat) "EvenCurveKeys" "secrets" "[J") ∈ wa := wa_1 63 (by decide +kernel) rfl
theorem ww_64 : (Jvm.Cond.fieldLink "EvenCurveKeys" (19 : Nat) "EvenCurveKeys" "items" "LEvenCurveKeys$Items;") ∈ wa := wa_1 64 (by decide +kernel) rfl
theorem ww_65 : (Jvm.Cond.fieldLink "EvenCurveKeys" (26 : Nat) "EvenCurveKeys" "typed" "LEvenCurveKeys$Typed;") ∈ wa := wa_1 65 (by decide +kernel) rfl
theorem ww_66 : (Jvm.Cond.fieldLink "EvenCurveKeys" (30 : Nat) "EvenCurveKeys" "lastMark" "I") ∈ wa := wa_1 66 (by decide +kernel) rfl
theorem ww_78 : (Jvm.Cond.methodLink "EvenCurveKeysLaw" (100 : Nat) ({ cls := "EvenCurveKeys", name := "even", desc := "(I)J" } : Jvm.MethodName)) ∈ wa := wa_1 78 (by decide +kernel) rfl
theorem ww_79 : (Jvm.Cond.instanceMethod ({ cls := "EvenCurveKeys", name := "even", desc := "(I)J" } : Jvm.MethodName)) ∈ wa := wa_1 79 (by decide +kernel) rfl
theorem ww_80 : (Jvm.Cond.selects "EvenCurveKeys" ({ cls := "EvenCurveKeys", name := "even", desc := "(I)J" } : Jvm.MethodName) ({ cls := "EvenCurveKeys", name := "even", desc := "(I)J" } : Jvm.MethodName)) ∈ wa := wa_1 80 (by decide +kernel) rfl
theorem ww_81 : (Jvm.Cond.code ({ cls := "EvenCurveKeys", name := "even", desc := "(I)J" } : Jvm.MethodName) prog_1_method_5_code (2 : Nat) (Option.some Jvm.ClassFile.FieldType.long)) ∈ wa := wa_1 81 (by decide +kernel) rfl
theorem ww_82 : (Jvm.Cond.methodLink "EvenCurveKeys" (67 : Nat) ({ cls := "EvenCurveKeys$Curve", name := "pointAt", desc := "(JZ)J" } : Jvm.MethodName)) ∈ wa := wa_1 82 (by decide +kernel) rfl
theorem ww_83 : (Jvm.Cond.static ({ cls := "EvenCurveKeys$Curve", name := "pointAt", desc := "(JZ)J" } : Jvm.MethodName)) ∈ wa := wa_1 83 (by decide +kernel) rfl
theorem ww_84 : (Jvm.Cond.code ({ cls := "EvenCurveKeys$Curve", name := "pointAt", desc := "(JZ)J" } : Jvm.MethodName) prog_2_method_7_code (9 : Nat) (Option.some Jvm.ClassFile.FieldType.long)) ∈ wa := wa_1 84 (by decide +kernel) rfl
theorem ww_85 : (Jvm.Cond.methodLink "EvenCurveKeys$Curve" (33 : Nat) ({ cls := "EvenCurveKeys$Field", name := "has", desc := "(J)Z" } : Jvm.MethodName)) ∈ wa := wa_1 85 (by decide +kernel) rfl
theorem ww_86 : (Jvm.Cond.static ({ cls := "EvenCurveKeys$Field", name := "has", desc := "(J)Z" } : Jvm.MethodName)) ∈ wa := wa_1 86 (by decide +kernel) rfl
theorem ww_87 : (Jvm.Cond.code ({ cls := "EvenCurveKeys$Field", name := "has", desc := "(J)Z" } : Jvm.MethodName) prog_3_method_2_code (2 : Nat) (Option.some Jvm.ClassFile.FieldType.boolean)) ∈ wa := wa_1 87 (by decide +kernel) rfl
theorem ww_88 : (Jvm.Cond.constantLong "EvenCurveKeys$Field" (9 : Nat) (1073735023 : Int64)) ∈ wa := wa_1 88 (by decide +kernel) rfl
theorem ww_89 : (Jvm.Cond.constantLong "EvenCurveKeys$Curve" (21 : Nat) (1073735023 : Int64)) ∈ wa := wa_1 89 (by decide +kernel) rfl
theorem ww_90 : (Jvm.Cond.constantLong "EvenCurveKeys$Curve" (36 : Nat) (7 : Int64)) ∈ wa := wa_1 90 (by decide +kernel) rfl
theorem ww_91 : (Jvm.Cond.methodLink "EvenCurveKeys$Curve" (38 : Nat) ({ cls := "EvenCurveKeys$Field", name := "rootIfAny", desc := "(J)J" } : Jvm.MethodName)) ∈ wa := wa_1 91 (by decide +kernel) rfl
theorem ww_92 : (Jvm.Cond.static ({ cls := "EvenCurveKeys$Field", name := "rootIfAny", desc := "(J)J" } : Jvm.MethodName)) ∈ wa := wa_1 92 (by decide +kernel) rfl
theorem ww_93 : (Jvm.Cond.code ({ cls := "EvenCurveKeys$Field", name := "rootIfAny", desc := "(J)J" } : Jvm.MethodName) prog_3_method_5_code (7 : Nat) (Option.some Jvm.ClassFile.FieldType.long)) ∈ wa := wa_1 93 (by decide +kernel) rfl
theorem ww_94 : (Jvm.Cond.constantLong "EvenCurveKeys$Field" (21 : Nat) (268433756 : Int64)) ∈ wa := wa_1 94 (by decide +kernel) rfl
theorem ww_95 : (Jvm.Cond.constantLong "EvenCurveKeys$Curve" (9 : Nat) (4294967296 : Int64)) ∈ wa := wa_1 95 (by decide +kernel) rfl
theorem ww_96 : (Jvm.Cond.methodLink "EvenCurveKeys$Curve" (26 : Nat) ({ cls := "EvenCurveKeys$Curve", name := "isOdd", desc := "(J)Z" } : Jvm.MethodName)) ∈ wa := wa_1 96 (by decide +kernel) rfl
theorem ww_97 : (Jvm.Cond.static ({ cls := "EvenCurveKeys$Curve", name := "isOdd", desc := "(J)Z" } : Jvm.MethodName)) ∈ wa := wa_1 97 (by decide +kernel) rfl
theorem ww_98 : (Jvm.Cond.code ({ cls := "EvenCurveKeys$Curve", name := "isOdd", desc := "(J)Z" } : Jvm.MethodName) prog_2_method_4_code (2 : Nat) (Option.some Jvm.ClassFile.FieldType.boolean)) ∈ wa := wa_1 98 (by decide +kernel) rfl
theorem ww_99 : (Jvm.Cond.constantLong "EvenCurveKeys$Curve" (11 : Nat) (2 : Int64)) ∈ wa := wa_1 99 (by decide +kernel) rfl
theorem ww_100 : (Jvm.Cond.methodLink "EvenCurveKeys$Curve" (30 : Nat) ({ cls := "EvenCurveKeys$Curve", name := "negative", desc := "(J)J" } : Jvm.MethodName)) ∈ wa := wa_1 100 (by decide +kernel) rfl
theorem ww_101 : (Jvm.Cond.static ({ cls := "EvenCurveKeys$Curve", name := "negative", desc := "(J)J" } : Jvm.MethodName)) ∈ wa := wa_1 101 (by decide +kernel) rfl
theorem ww_102 : (Jvm.Cond.code ({ cls := "EvenCurveKeys$Curve", name := "negative", desc := "(J)J" } : Jvm.MethodName) prog_2_method_5_code (2 : Nat) (Option.some Jvm.ClassFile.FieldType.long)) ∈ wa := wa_1 102 (by decide +kernel) rfl
theorem ww_103 : (Jvm.Cond.methodLink "EvenCurveKeys$Curve" (15 : Nat) ({ cls := "EvenCurveKeys$Curve", name := "xOf", desc := "(J)J" } : Jvm.MethodName)) ∈ wa := wa_1 103 (by decide +kernel) rfl
theorem ww_104 : (Jvm.Cond.static ({ cls := "EvenCurveKeys$Curve", name := "xOf", desc := "(J)J" } : Jvm.MethodName)) ∈ wa := wa_1 104 (by decide +kernel) rfl
theorem ww_105 : (Jvm.Cond.code ({ cls := "EvenCurveKeys$Curve", name := "xOf", desc := "(J)J" } : Jvm.MethodName) prog_2_method_2_code (2 : Nat) (Option.some Jvm.ClassFile.FieldType.long)) ∈ wa := wa_1 105 (by decide +kernel) rfl
theorem ww_106 : (Jvm.Cond.methodLink "EvenCurveKeys$Curve" (23 : Nat) ({ cls := "EvenCurveKeys$Curve", name := "yOf", desc := "(J)J" } : Jvm.MethodName)) ∈ wa := wa_1 106 (by decide +kernel) rfl
theorem ww_107 : (Jvm.Cond.static ({ cls := "EvenCurveKeys$Curve", name := "yOf", desc := "(J)J" } : Jvm.MethodName)) ∈ wa := wa_1 107 (by decide +kernel) rfl
theorem ww_108 : (Jvm.Cond.code ({ cls := "EvenCurveKeys$Curve", name := "yOf", desc := "(J)J" } : Jvm.MethodName) prog_2_method_3_code (2 : Nat) (Option.some Jvm.ClassFile.FieldType.long)) ∈ wa := wa_1 108 (by decide +kernel) rfl
theorem ww_109 : (Jvm.Cond.methodLink "EvenCurveKeys" (64 : Nat) ({ cls := "EvenCurveKeys$Curve", name := "toCode", desc := "(J)J" } : Jvm.MethodName)) ∈ wa := wa_1 109 (by decide +kernel) rfl
theorem ww_110 : (Jvm.Cond.static ({ cls := "EvenCurveKeys$Curve", name := "toCode", desc := "(J)J" } : Jvm.MethodName)) ∈ wa := wa_1 110 (by decide +kernel) rfl
theorem ww_111 : (Jvm.Cond.code ({ cls := "EvenCurveKeys$Curve", name := "toCode", desc := "(J)J" } : Jvm.MethodName) prog_2_method_8_code (2 : Nat) (Option.some Jvm.ClassFile.FieldType.long)) ∈ wa := wa_1 111 (by decide +kernel) rfl
theorem ww_112 : (Jvm.Cond.methodLink "EvenCurveKeysLaw" (119 : Nat) ({ cls := "EvenCurveKeys", name := "mark", desc := "()I" } : Jvm.MethodName)) ∈ wa := wa_1 112 (by decide +kernel) rfl
theorem ww_113 : (Jvm.Cond.instanceMethod ({ cls := "EvenCurveKeys", name := "mark", desc := "()I" } : Jvm.MethodName)) ∈ wa := wa_1 113 (by decide +kernel) rfl
theorem ww_114 : (Jvm.Cond.selects "EvenCurveKeys" ({ cls := "EvenCurveKeys", name := "mark", desc := "()I" } : Jvm.MethodName) ({ cls := "EvenCurveKeys", name := "mark", desc := "()I" } : Jvm.MethodName)) ∈ wa := wa_1 114 (by decide +kernel) rfl
theorem ww_115 : (Jvm.Cond.code ({ cls := "EvenCurveKeys", name := "mark", desc := "()I" } : Jvm.MethodName) prog_1_method_10_code (1 : Nat) (Option.some Jvm.ClassFile.FieldType.int)) ∈ wa := wa_1 115 (by decide +kernel) rfl
theorem ww_116 : (Jvm.Cond.methodLink "EvenCurveKeysLaw" (141 : Nat) ({ cls := "EvenCurveKeys", name := "right", desc := "(J)Z" } : Jvm.MethodName)) ∈ wa := wa_1 116 (by decide +kernel) rfl
theorem ww_117 : (Jvm.Cond.instanceMethod ({ cls := "EvenCurveKeys", name := "right", desc := "(J)Z" } : Jvm.MethodName)) ∈ wa := wa_1 117 (by decide +kernel) rfl
theorem ww_118 : (Jvm.Cond.selects "EvenCurveKeys" ({ cls := "EvenCurveKeys", name := "right", desc := "(J)Z" } : Jvm.MethodName) ({ cls := "EvenCurveKeys", name := "right", desc := "(J)Z" } : Jvm.MethodName)) ∈ wa := wa_1 118 (by decide +kernel) rfl
theorem ww_119 : (Jvm.Cond.code ({ cls := "EvenCurveKeys", name := "right", desc := "(J)Z" } : Jvm.MethodName) prog_1_method_16_code (4 : Nat) (Option.some Jvm.ClassFile.FieldType.boolean)) ∈ wa := wa_1 119 (by decide +kernel) rfl
theorem ww_120 : (Jvm.Cond.methodLink "EvenCurveKeys" (143 : Nat) ({ cls := "EvenCurveKeys$Items", name := "balance", desc := "(J)Z" } : Jvm.MethodName)) ∈ wa := wa_1 120 (by decide +kernel) rfl
theorem ww_121 : (Jvm.Cond.instanceMethod ({ cls := "EvenCurveKeys$Items", name := "balance", desc := "(J)Z" } : Jvm.MethodName)) ∈ wa := wa_1 121 (by decide +kernel) rfl
theorem ww_122 : (Jvm.Cond.selects "EvenCurveKeys$Items" ({ cls := "EvenCurveKeys$Items", name := "balance", desc := "(J)Z" } : Jvm.MethodName) ({ cls := "EvenCurveKeys$Items", name := "balance", desc := "(J)Z" } : Jvm.MethodName)) ∈ wa := wa_1 122 (by decide +kernel) rfl
theorem ww_123 : (Jvm.Cond.code ({ cls := "EvenCurveKeys$Items", name := "balance", desc := "(J)Z" } : Jvm.MethodName) prog_5_method_5_code (16 : Nat) (Option.some Jvm.ClassFile.FieldType.boolean)) ∈ wa := wa_1 123 (by decide +kernel) rfl
theorem ww_124 : (Jvm.Cond.methodLink "EvenCurveKeys$Items" (35 : Nat) ({ cls := "EvenCurveKeys$Curve", name := "pointAt", desc := "(JZ)J" } : Jvm.MethodName)) ∈ wa := wa_1 124 (by decide +kernel) rfl
theorem ww_125 : (Jvm.Cond.methodLink "EvenCurveKeys$Items" (39 : Nat) ({ cls := "EvenCurveKeys$Scalars", name := "has", desc := "(J)Z" } : Jvm.MethodName)) ∈ wa := wa_1 125 (by decide +kernel) rfl
theorem ww_126 : (Jvm.Cond.static ({ cls := "EvenCurveKeys$Scalars", name := "has", desc := "(J)Z" } : Jvm.MethodName)) ∈ wa := wa_1 126 (by decide +kernel) rfl
theorem ww_127 : (Jvm.Cond.code ({ cls := "EvenCurveKeys$Scalars", name := "has", desc := "(J)Z" } : Jvm.MethodName) prog_6_method_2_code (2 : Nat) (Option.some Jvm.ClassFile.FieldType.boolean)) ∈ wa := wa_1 127 (by decide +kernel) rfl
theorem ww_128 : (Jvm.Cond.constantLong "EvenCurveKeys$Scalars" (9 : Nat) (1073729077 : Int64)) ∈ wa := wa_1 128 (by decide +kernel) rfl
theorem ww_129 : (Jvm.Cond.methodLink "EvenCurveKeys$Items" (45 : Nat) ({ cls := "EvenCurveKeys$Items", name := "weight", desc := "(JI)J" } : Jvm.MethodName)) ∈ wa := wa_1 129 (by decide +kernel) rfl
theorem ww_130 : (Jvm.Cond.static ({ cls := "EvenCurveKeys$Items", name := "weight", desc := "(JI)J" } : Jvm.MethodName)) ∈ wa := wa_1 130 (by decide +kernel) rfl
theorem ww_131 : (Jvm.Cond.code ({ cls := "EvenCurveKeys$Items", name := "weight", desc := "(JI)J" } : Jvm.MethodName) prog_5_method_6_code (3 : Nat) (Option.some Jvm.ClassFile.FieldType.long)) ∈ wa := wa_1 131 (by decide +kernel) rfl
theorem ww_133 : (Jvm.Cond.static ({ cls := "EvenCurveKeys", name := "mix", desc := "(JJ)J" } : Jvm.MethodName)) ∈ wa := wa_1 133 (by decide +kernel) rfl
theorem ww_134 : (Jvm.Cond.code ({ cls := "EvenCurveKeys", name := "mix", desc := "(JJ)J" } : Jvm.MethodName) prog_1_method_29_code (6 : Nat) (Option.some Jvm.ClassFile.FieldType.long)) ∈ wa := wa_1 134 (by decide +kernel) rfl
theorem ww_135 : (Jvm.Cond.constantLong "EvenCurveKeys" (185 : Nat) (5903417616886299669 : Int64)) ∈ wa := wa_1 135 (by decide +kernel) rfl
theorem ww_136 : (Jvm.Cond.constantLong "EvenCurveKeys" (187 : Nat) (6364136223846793005 : Int64)) ∈ wa := wa_1 136 (by decide +kernel) rfl
theorem ww_137 : (Jvm.Cond.constantLong "EvenCurveKeys" (189 : Nat) (2685821657736338717 : Int64)) ∈ wa := wa_1 137 (by decide +kernel) rfl
theorem ww_138 : (Jvm.Cond.constantLong "EvenCurveKeys$Items" (74 : Nat) (1073729076 : Int64)) ∈ wa := wa_1 138 (by decide +kernel) rfl
theorem ww_139 : (Jvm.Cond.methodLink "EvenCurveKeys$Items" (49 : Nat) ({ cls := "EvenCurveKeys$Curve", name := "xOf", desc := "(J)J" } : Jvm.MethodName)) ∈ wa := wa_1 139 (by decide +kernel) rfl
theorem ww_141 : (Jvm.Cond.static ({ cls := "EvenCurveKeys", name := "challenge", desc := "(JJJ)J" } : Jvm.MethodName)) ∈ wa := wa_1 141 (by decide +kernel) rfl
theorem ww_142 : (Jvm.Cond.code ({ cls := "EvenCurveKeys", name := "challenge", desc := "(JJJ)J" } : Jvm.MethodName) prog_1_method_31_code (6 : Nat) (Option.some Jvm.ClassFile.FieldType.long)) ∈ wa := wa_1 142 (by decide +kernel) rfl
theorem ww_143 : (Jvm.Cond.constantLong "EvenCurveKeys" (110 : Nat) (4294967296 : Int64)) ∈ wa := wa_1 143 (by decide +kernel) rfl
theorem ww_144 : (Jvm.Cond.constantLong "EvenCurveKeys" (193 : Nat) (29 : Int64)) ∈ wa := wa_1 144 (by decide +kernel) rfl
theorem ww_145 : (Jvm.Cond.methodLink "EvenCurveKeys" (95 : Nat) ({ cls := "EvenCurveKeys", name := "mix", desc := "(JJ)J" } : Jvm.MethodName)) ∈ wa := wa_1 145 (by decide +kernel) rfl
theorem ww_146 : (Jvm.Cond.constantLong "EvenCurveKeys" (101 : Nat) (1073729077 : Int64)) ∈ wa := wa_1 146 (by decide +kernel) rfl
theorem ww_147 : (Jvm.Cond.constantLong "EvenCurveKeys$Items" (56 : Nat) (1073729077 : Int64)) ∈ wa := wa_1 147 (by decide +kernel) rfl
theorem ww_148 : (Jvm.Cond.methodLink "EvenCurveKeys$Items" (58 : Nat) ({ cls := "EvenCurveKeys$Curve", name := "sumOfMultiples", desc := "(JJJJ)J" } : Jvm.MethodName)) ∈ wa := wa_1 148 (by decide +kernel) rfl
theorem ww_149 : (Jvm.Cond.static ({ cls := "EvenCurveKeys$Curve", name := "sumOfMultiples", desc := "(JJJJ)J" } : Jvm.MethodName)) ∈ wa := wa_1 149 (by decide +kernel) rfl
theorem ww_150 : (Jvm.Cond.code ({ cls := "EvenCurveKeys$Curve", name := "sumOfMultiples", desc := "(JJJJ)J" } : Jvm.MethodName) prog_2_method_12_code (8 : Nat) (Option.some Jvm.ClassFile.FieldType.long)) ∈ wa := wa_1 150 (by decide +kernel) rfl
theorem ww_151 : (Jvm.Cond.methodLink "EvenCurveKeys$Curve" (57 : Nat) ({ cls := "EvenCurveKeys$Curve", name := "multiple", desc := "(JJ)J" } : Jvm.MethodName)) ∈ wa := wa_1 151 (by decide +kernel) rfl
theorem ww_152 : (Jvm.Cond.static ({ cls := "EvenCurveKeys$Curve", name := "multiple", desc := "(JJ)J" } : Jvm.MethodName)) ∈ wa := wa_1 152 (by decide +kernel) rfl
theorem ww_153 : (Jvm.Cond.code ({ cls := "EvenCurveKeys$Curve", name := "multiple", desc := "(JJ)J" } : Jvm.MethodName) prog_2_method_11_code (7 : Nat) (Option.some Jvm.ClassFile.FieldType.long)) ∈ wa := wa_1 153 (by decide +kernel) rfl
theorem ww_154 : (Jvm.Cond.methodLink "EvenCurveKeys$Curve" (54 : Nat) ({ cls := "EvenCurveKeys$Curve", name := "sum", desc := "(JJ)J" } : Jvm.MethodName)) ∈ wa := wa_1 154 (by decide +kernel) rfl
theorem ww_155 : (Jvm.Cond.static ({ cls := "EvenCurveKeys$Curve", name := "sum", desc := "(JJ)J" } : Jvm.MethodName)) ∈ wa := wa_1 155 (by decide +kernel) rfl
theorem ww_156 : (Jvm.Cond.code ({ cls := "EvenCurveKeys$Curve", name := "sum", desc := "(JJ)J" } : Jvm.MethodName) prog_2_method_10_code (14 : Nat) (Option.some Jvm.ClassFile.FieldType.long)) ∈ wa := wa_1 156 (by decide +kernel) rfl
theorem ww_157 : (Jvm.Cond.constantLong "EvenCurveKeys$Curve" (41 : Nat) (3 : Int64)) ∈ wa := wa_1 157 (by decide +kernel) rfl
theorem ww_158 : (Jvm.Cond.methodLink "EvenCurveKeys$Curve" (47 : Nat) ({ cls := "EvenCurveKeys$Field", name := "quotient", desc := "(JJ)J" } : Jvm.MethodName)) ∈ wa := wa_1 158 (by decide +kernel) rfl
theorem ww_159 : (Jvm.Cond.static ({ cls := "EvenCurveKeys$Field", name := "quotient", desc := "(JJ)J" } : Jvm.MethodName)) ∈ wa := wa_1 159 (by decide +kernel) rfl
theorem ww_160 : (Jvm.Cond.code ({ cls := "EvenCurveKeys$Field", name := "quotient", desc := "(JJ)J" } : Jvm.MethodName) prog_3_method_4_code (4 : Nat) (Option.some Jvm.ClassFile.FieldType.long)) ∈ wa := wa_1 160 (by decide +kernel) rfl
theorem ww_161 : (Jvm.Cond.methodLink "EvenCurveKeys$Field" (11 : Nat) ({ cls := "EvenCurveKeys$Field", name := "reduced", desc := "(J)J" } : Jvm.MethodName)) ∈ wa := wa_1 161 (by decide +kernel) rfl
theorem ww_162 : (Jvm.Cond.static ({ cls := "EvenCurveKeys$Field", name := "reduced", desc := "(J)J" } : Jvm.MethodName)) ∈ wa := wa_1 162 (by decide +kernel) rfl
theorem ww_163 : (Jvm.Cond.code ({ cls := "EvenCurveKeys$Field", name := "reduced", desc := "(J)J" } : Jvm.MethodName) prog_3_method_3_code (4 : Nat) (Option.some Jvm.ClassFile.FieldType.long)) ∈ wa := wa_1 163 (by decide +kernel) rfl
theorem ww_165 : (Jvm.Cond.static ({ cls := "EvenCurveKeys", name := "inverse", desc := "(JJ)J" } : Jvm.MethodName)) ∈ wa := wa_1 165 (by decide +kernel) rfl
theorem ww_166 : (Jvm.Cond.code ({ cls := "EvenCurveKeys", name := "inverse", desc := "(JJ)J" } : Jvm.MethodName) prog_1_method_32_code (19 : Nat) (Option.some Jvm.ClassFile.FieldType.long)) ∈ wa := wa_1 166 (by decide +kernel) rfl
theorem ww_167 : (Jvm.Cond.methodLink "EvenCurveKeys$Curve" (51 : Nat) ({ cls := "EvenCurveKeys$Field", name := "reduced", desc := "(J)J" } : Jvm.MethodName)) ∈ wa := wa_1 167 (by decide +kernel) rfl
theorem ww_168 : (Jvm.Cond.methodLink "EvenCurveKeys$Items" (62 : Nat) ({ cls := "EvenCurveKeys$Curve", name := "sum", desc := "(JJ)J" } : Jvm.MethodName)) ∈ wa := wa_1 168 (by decide +kernel) rfl
theorem ww_169 : (Jvm.Cond.constantLong "EvenCurveKeys$Items" (66 : Nat) (4411025356 : Int64)) ∈ wa := wa_1 169 (by decide +kernel) rfl
theorem ww_170 : (Jvm.Cond.methodLink "EvenCurveKeys$Items" (68 : Nat) ({ cls := "EvenCurveKeys$Curve", name := "multiple", desc := "(JJ)J" } : Jvm.MethodName)) ∈ wa := wa_1 170 (by decide +kernel) rfl
theorem ww_171 : (Jvm.Cond.methodLink "EvenCurveKeys" (146 : Nat) ({ cls := "EvenCurveKeys$Items", name := "clear", desc := "()V" } : Jvm.MethodName)) ∈ wa := wa_1 171 (by decide +kernel) rfl
theorem ww_172 : (Jvm.Cond.instanceMethod ({ cls := "EvenCurveKeys$Items", name := "clear", desc := "()V" } : Jvm.MethodName)) ∈ wa := wa_1 172 (by decide +kernel) rfl
theorem ww_173 : (Jvm.Cond.selects "EvenCurveKeys$Items" ({ cls := "EvenCurveKeys$Items", name := "clear", desc := "()V" } : Jvm.MethodName) ({ cls := "EvenCurveKeys$Items", name := "clear", desc := "()V" } : Jvm.MethodName)) ∈ wa := wa_1 173 (by decide +kernel) rfl
theorem ww_174 : (Jvm.Cond.code ({ cls := "EvenCurveKeys$Items", name := "clear", desc := "()V" } : Jvm.MethodName) prog_5_method_4_code (1 : Nat) (Option.none : Option Jvm.ClassFile.FieldType)) ∈ wa := wa_1 174 (by decide +kernel) rfl
theorem ww_175 : (Jvm.Cond.methodLink "EvenCurveKeysLaw" (155 : Nat) ({ cls := "EvenCurveKeys", name := "read", desc := "()J" } : Jvm.MethodName)) ∈ wa := wa_1 175 (by decide +kernel) rfl
theorem ww_176 : (Jvm.Cond.instanceMethod ({ cls := "EvenCurveKeys", name := "read", desc := "()J" } : Jvm.MethodName)) ∈ wa := wa_1 176 (by decide +kernel) rfl
theorem ww_177 : (Jvm.Cond.selects "EvenCurveKeys" ({ cls := "EvenCurveKeys", name := "read", desc := "()J" } : Jvm.MethodName) ({ cls := "EvenCurveKeys", name := "read", desc := "()J" } : Jvm.MethodName)) ∈ wa := wa_1 177 (by decide +kernel) rfl
theorem ww_178 : (Jvm.Cond.code ({ cls := "EvenCurveKeys", name := "read", desc := "()J" } : Jvm.MethodName) prog_1_method_20_code (3 : Nat) (Option.some Jvm.ClassFile.FieldType.long)) ∈ wa := wa_1 178 (by decide +kernel) rfl
theorem ww_179 : (Jvm.Cond.methodLink "EvenCurveKeys" (168 : Nat) ({ cls := "EvenCurveKeys$Typed", name := "numbers", desc := "()J" } : Jvm.MethodName)) ∈ wa := wa_1 179 (by decide +kernel) rfl
theorem ww_180 : (Jvm.Cond.instanceMethod ({ cls := "EvenCurveKeys$Typed", name := "numbers", desc := "()J" } : Jvm.MethodName)) ∈ wa := wa_1 180 (by decide +kernel) rfl
theorem ww_181 : (Jvm.Cond.selects "EvenCurveKeys$Typed" ({ cls := "EvenCurveKeys$Typed", name := "numbers", desc := "()J" } : Jvm.MethodName) ({ cls := "EvenCurveKeys$Typed", name := "numbers", desc := "()J" } : Jvm.MethodName)) ∈ wa := wa_1 181 (by decide +kernel) rfl
theorem ww_182 : (Jvm.Cond.code ({ cls := "EvenCurveKeys$Typed", name := "numbers", desc := "()J" } : Jvm.MethodName) prog_7_method_5_code (4 : Nat) (Option.some Jvm.ClassFile.FieldType.long)) ∈ wa := wa_1 182 (by decide +kernel) rfl
theorem ww_183 : (Jvm.Cond.methodLink "EvenCurveKeys$Typed" (21 : Nat) ({ cls := "EvenCurveKeys$Typed", name := "sizeAt", desc := "(I)I" } : Jvm.MethodName)) ∈ wa := wa_1 183 (by decide +kernel) rfl
theorem ww_185 : (Jvm.Cond.instanceMethod ({ cls := "EvenCurveKeys$Typed", name := "sizeAt", desc := "(I)I" } : Jvm.MethodName)) ∈ wa := wa_1 185 (by decide +kernel) rfl
theorem ww_186 : (Jvm.Cond.code ({ cls := "EvenCurveKeys$Typed", name := "sizeAt", desc := "(I)I" } : Jvm.MethodName) prog_7_method_6_code (2 : Nat) (Option.some Jvm.ClassFile.FieldType.int)) ∈ wa := wa_1 186 (by decide +kernel) rfl
theorem ww_187 : (Jvm.Cond.methodLink "EvenCurveKeys$Typed" (25 : Nat) ({ cls := "EvenCurveKeys$Typed", name := "numberAt", desc := "(I)I" } : Jvm.MethodName)) ∈ wa := wa_1 187 (by decide +kernel) rfl
theorem ww_189 : (Jvm.Cond.instanceMethod ({ cls := "EvenCurveKeys$Typed", name := "numberAt", desc := "(I)I" } : Jvm.MethodName)) ∈ wa := wa_1 189 (by decide +kernel) rfl
theorem ww_190 : (Jvm.Cond.code ({ cls := "EvenCurveKeys$Typed", name := "numberAt", desc := "(I)I" } : Jvm.MethodName) prog_7_method_7_code (5 : Nat) (Option.some Jvm.ClassFile.FieldType.int)) ∈ wa := wa_1 190 (by decide +kernel) rfl
theorem ww_191 : (Jvm.Cond.methodLink "EvenCurveKeys$Typed" (28 : Nat) ({ cls := "EvenCurveKeys$Typed", name := "areFormOf", desc := "(II)Z" } : Jvm.MethodName)) ∈ wa := wa_1 191 (by decide +kernel) rfl
theorem ww_193 : (Jvm.Cond.instanceMethod ({ cls := "EvenCurveKeys$Typed", name := "areFormOf", desc := "(II)Z" } : Jvm.MethodName)) ∈ wa := wa_1 193 (by decide +kernel) rfl
theorem ww_194 : (Jvm.Cond.code ({ cls := "EvenCurveKeys$Typed", name := "areFormOf", desc := "(II)Z" } : Jvm.MethodName) prog_7_method_8_code (4 : Nat) (Option.some Jvm.ClassFile.FieldType.boolean)) ∈ wa := wa_1 194 (by decide +kernel) rfl
theorem ww_195 : (Jvm.Cond.methodLink "EvenCurveKeys$Typed" (36 : Nat) ({ cls := "EvenCurveKeys$Form", name := "length", desc := "(II)I" } : Jvm.MethodName)) ∈ wa := wa_1 195 (by decide +kernel) rfl
theorem ww_196 : (Jvm.Cond.static ({ cls := "EvenCurveKeys$Form", name := "length", desc := "(II)I" } : Jvm.MethodName)) ∈ wa := wa_1 196 (by decide +kernel) rfl
theorem ww_197 : (Jvm.Cond.code ({ cls := "EvenCurveKeys$Form", name := "length", desc := "(II)I" } : Jvm.MethodName) prog_4_method_3_code (2 : Nat) (Option.some Jvm.ClassFile.FieldType.int)) ∈ wa := wa_1 197 (by decide +kernel) rfl
theorem ww_198 : (Jvm.Cond.methodLink "EvenCurveKeys$Form" (11 : Nat) ({ cls := "EvenCurveKeys$Form", name := "bytesOf", desc := "(I)I" } : Jvm.MethodName)) ∈ wa := wa_1 198 (by decide +kernel) rfl
theorem ww_199 : (Jvm.Cond.static ({ cls := "EvenCurveKeys$Form", name := "bytesOf", desc := "(I)I" } : Jvm.MethodName)) ∈ wa := wa_1 199 (by decide +kernel) rfl
theorem ww_200 : (Jvm.Cond.code ({ cls := "EvenCurveKeys$Form", name := "bytesOf", desc := "(I)I" } : Jvm.MethodName) prog_4_method_2_code (1 : Nat) (Option.some Jvm.ClassFile.FieldType.int)) ∈ wa := wa_1 200 (by decide +kernel) rfl
theorem ww_201 : (Jvm.Cond.constant "EvenCurveKeys$Form" (7 : Nat) (32768 : Int32)) ∈ wa := wa_1 201 (by decide +kernel) rfl
theorem ww_202 : (Jvm.Cond.constant "EvenCurveKeys$Form" (8 : Nat) (8388608 : Int32)) ∈ wa := wa_1 202 (by decide +kernel) rfl
theorem ww_203 : (Jvm.Cond.methodLink "EvenCurveKeys$Typed" (40 : Nat) ({ cls := "EvenCurveKeys$Form", name := "byteAt", desc := "(III)I" } : Jvm.MethodName)) ∈ wa := wa_1 203 (by decide +kernel) rfl
theorem ww_204 : (Jvm.Cond.static ({ cls := "EvenCurveKeys$Form", name := "byteAt", desc := "(III)I" } : Jvm.MethodName)) ∈ wa := wa_1 204 (by decide +kernel) rfl
theorem ww_205 : (Jvm.Cond.code ({ cls := "EvenCurveKeys$Form", name := "byteAt", desc := "(III)I" } : Jvm.MethodName) prog_4_method_4_code (4 : Nat) (Option.some Jvm.ClassFile.FieldType.int)) ∈ wa := wa_1 205 (by decide +kernel) rfl
theorem ww_206 : (Jvm.Cond.methodLink "EvenCurveKeys$Form" (15 : Nat) ({ cls := "EvenCurveKeys$Form", name := "length", desc := "(II)I" } : Jvm.MethodName)) ∈ wa := wa_1 206 (by decide +kernel) rfl
theorem ww_207 : (Jvm.Cond.methodLink "EvenCurveKeys$Form" (19 : Nat) ({ cls := "EvenCurveKeys$Form", name := "numberByteAt", desc := "(II)I" } : Jvm.MethodName)) ∈ wa := wa_1 207 (by decide +kernel) rfl
theorem ww_208 : (Jvm.Cond.static ({ cls := "EvenCurveKeys$Form", name := "numberByteAt", desc := "(II)I" } : Jvm.MethodName)) ∈ wa := wa_1 208 (by decide +kernel) rfl
theorem ww_209 : (Jvm.Cond.code ({ cls := "EvenCurveKeys$Form", name := "numberByteAt", desc := "(II)I" } : Jvm.MethodName) prog_4_method_5_code (3 : Nat) (Option.some Jvm.ClassFile.FieldType.int)) ∈ wa := wa_1 209 (by decide +kernel) rfl
theorem ww_210 : (Jvm.Cond.constantLong "EvenCurveKeys$Typed" (32 : Nat) (4294967296 : Int64)) ∈ wa := wa_1 210 (by decide +kernel) rfl
theorem ww_211 : (Jvm.Cond.constantLong "EvenCurveKeys$Typed" (34 : Nat) (-1 : Int64)) ∈ wa := wa_1 211 (by decide +kernel) rfl
theorem ww_212 : (Jvm.Cond.methodLink "EvenCurveKeys" (172 : Nat) ({ cls := "EvenCurveKeys$Typed", name := "clear", desc := "()V" } : Jvm.MethodName)) ∈ wa := wa_1 212 (by decide +kernel) rfl
theorem ww_213 : (Jvm.Cond.instanceMethod ({ cls := "EvenCurveKeys$Typed", name := "clear", desc := "()V" } : Jvm.MethodName)) ∈ wa := wa_1 213 (by decide +kernel) rfl
theorem ww_214 : (Jvm.Cond.selects "EvenCurveKeys$Typed" ({ cls := "EvenCurveKeys$Typed", name := "clear", desc := "()V" } : Jvm.MethodName) ({ cls := "EvenCurveKeys$Typed", name := "clear", desc := "()V" } : Jvm.MethodName)) ∈ wa := wa_1 214 (by decide +kernel) rfl
theorem ww_215 : (Jvm.Cond.code ({ cls := "EvenCurveKeys$Typed", name := "clear", desc := "()V" } : Jvm.MethodName) prog_7_method_4_code (1 : Nat) (Option.none : Option Jvm.ClassFile.FieldType)) ∈ wa := wa_1 215 (by decide +kernel) rfl
theorem ww_216 : (Jvm.Cond.methodLink "EvenCurveKeysLaw" (80 : Nat) ({ cls := "EvenCurveKeysLaw", name := "secret", desc := "(LEvenCurveKeys;II[J)I" } : Jvm.MethodName)) ∈ wa := wa_1 216 (by decide +kernel) rfl
theorem ww_217 : (Jvm.Cond.static ({ cls := "EvenCurveKeysLaw", name := "secret", desc := "(LEvenCurveKeys;II[J)I" } : Jvm.MethodName)) ∈ wa := wa_1 217 (by decide +kernel) rfl
theorem ww_218 : (Jvm.Cond.codeWith ({ cls := "EvenCurveKeysLaw", name := "secret", desc := "(LEvenCurveKeys;II[J)I" } : Jvm.MethodName) method_3_code (5 : Nat) (Option.some Jvm.ClassFile.FieldType.int) [((0 : Nat), (9 : Nat), (12 : Nat), (13 : Nat)), ((0 : Nat), (9 : Nat), (16 : Nat), (15 : Nat))]) ∈ wa := wa_1 218 (by decide +kernel) rfl
theorem ww_219 : (Jvm.Cond.classLink "EvenCurveKeysLaw" (13 : Nat) "java/lang/IndexOutOfBoundsException") ∈ wa := wa_1 219 (by decide +kernel) rfl
theorem ww_220 : (Jvm.Cond.classLink "EvenCurveKeysLaw" (15 : Nat) "java/lang/IllegalArgumentException") ∈ wa := wa_1 220 (by decide +kernel) rfl
theorem ww_221 : (Jvm.Cond.methodLink "EvenCurveKeysLaw" (7 : Nat) ({ cls := "EvenCurveKeys", name := "secret", desc := "(II)J" } : Jvm.MethodName)) ∈ wa := wa_1 221 (by decide +kernel) rfl
theorem ww_222 : (Jvm.Cond.instanceMethod ({ cls := "EvenCurveKeys", name := "secret", desc := "(II)J" } : Jvm.MethodName)) ∈ wa := wa_1 222 (by decide +kernel) rfl
theorem ww_223 : (Jvm.Cond.selects "EvenCurveKeys" ({ cls := "EvenCurveKeys", name := "secret", desc := "(II)J" } : Jvm.MethodName) ({ cls := "EvenCurveKeys", name := "secret", desc := "(II)J" } : Jvm.MethodName)) ∈ wa := wa_1 223 (by decide +kernel) rfl
theorem ww_224 : (Jvm.Cond.code ({ cls := "EvenCurveKeys", name := "secret", desc := "(II)J" } : Jvm.MethodName) prog_1_method_2_code (3 : Nat) (Option.some Jvm.ClassFile.FieldType.long)) ∈ wa := wa_1 224 (by decide +kernel) rfl
theorem ww_225 : (Jvm.Cond.methodLink "EvenCurveKeys" (34 : Nat) ({ cls := "EvenCurveKeys", name := "needSlot", desc := "(I)V" } : Jvm.MethodName)) ∈ wa := wa_1 225 (by decide +kernel) rfl
theorem ww_226 : (Jvm.Cond.static ({ cls := "EvenCurveKeys", name := "needSlot", desc := "(I)V" } : Jvm.MethodName)) ∈ wa := wa_1 226 (by decide +kernel) rfl
theorem ww_227 : (Jvm.Cond.code ({ cls := "EvenCurveKeys", name := "needSlot", desc := "(I)V" } : Jvm.MethodName) prog_1_method_21_code (1 : Nat) (Option.none : Option Jvm.ClassFile.FieldType)) ∈ wa := wa_1 227 (by decide +kernel) rfl
theorem ww_228 : (Jvm.Cond.classLink "EvenCurveKeys" (173 : Nat) "java/lang/IndexOutOfBoundsException") ∈ wa := wa_1 228 (by decide +kernel) rfl
theorem ww_229 : (Jvm.Cond.instantiable "java/lang/IndexOutOfBoundsException" (6 : Nat)) ∈ wa := wa_1 229 (by decide +kernel) rfl
theorem ww_237 : (Jvm.Cond.selects "java/lang/IndexOutOfBoundsException" ({ cls := "java/lang/Throwable", name := "fillInStackTrace", desc := "(I)Ljava/lang/Throwable;" } : Jvm.MethodName) ({ cls := "java/lang/Throwable", name := "fillInStackTrace", desc := "(I)Ljava/lang/Throwable;" } : Jvm.MethodName)) ∈ wa := wa_1 237 (by decide +kernel) rfl
theorem ww_238 : (Jvm.Cond.selects "java/lang/IndexOutOfBoundsException" ({ cls := "java/lang/Throwable", name := "fillInStackTrace", desc := "()Ljava/lang/Throwable;" } : Jvm.MethodName) ({ cls := "java/lang/Throwable", name := "fillInStackTrace", desc := "()Ljava/lang/Throwable;" } : Jvm.MethodName)) ∈ wa := wa_1 238 (by decide +kernel) rfl
theorem ww_249 : (Jvm.Cond.fieldLink "java/lang/Throwable" (198 : Nat) "java/lang/Throwable" "backtrace" "Ljava/lang/Object;") ∈ wa := wa_2 9 (by decide +kernel) rfl
theorem ww_251 : (Jvm.Cond.instanceMethod ({ cls := "java/lang/Throwable", name := "<init>", desc := "()V" } : Jvm.MethodName)) ∈ wa := wa_2 11 (by decide +kernel) rfl
theorem ww_252 : (Jvm.Cond.code ({ cls := "java/lang/Throwable", name := "<init>", desc := "()V" } : Jvm.MethodName) prog_15_method_1_code (1 : Nat) (Option.none : Option Jvm.ClassFile.FieldType)) ∈ wa := wa_2 12 (by decide +kernel) rfl
theorem ww_253 : (Jvm.Cond.methodLink "java/lang/Throwable" (1 : Nat) ({ cls := "java/lang/Object", name := "<init>", desc := "()V" } : Jvm.MethodName)) ∈ wa := wa_2 13 (by decide +kernel) rfl
theorem ww_254 : (Jvm.Cond.fieldLink "java/lang/Throwable" (13 : Nat) "java/lang/Throwable" "UNASSIGNED_STACK" "[Ljava/lang/StackTraceElement;") ∈ wa := wa_2 14 (by decide +kernel) rfl
theorem ww_256 : (Jvm.Cond.fieldLink "java/lang/Throwable" (20 : Nat) "java/lang/Throwable" "SUPPRESSED_SENTINEL" "Ljava/util/List;") ∈ wa := wa_2 16 (by decide +kernel) rfl
theorem ww_258 : (Jvm.Cond.methodLink "java/lang/Throwable" (27 : Nat) ({ cls := "java/lang/Throwable", name := "fillInStackTrace", desc := "()Ljava/lang/Throwable;" } : Jvm.MethodName)) ∈ wa := wa_2 18 (by decide +kernel) rfl
theorem ww_259 : (Jvm.Cond.instanceMethod ({ cls := "java/lang/Throwable", name := "fillInStackTrace", desc := "()Ljava/lang/Throwable;" } : Jvm.MethodName)) ∈ wa := wa_2 19 (by decide +kernel) rfl
theorem ww_261 : (Jvm.Cond.selects "java/lang/IllegalArgumentException" ({ cls := "java/lang/Throwable", name := "fillInStackTrace", desc := "()Ljava/lang/Throwable;" } : Jvm.MethodName) ({ cls := "java/lang/Throwable", name := "fillInStackTrace", desc := "()Ljava/lang/Throwable;" } : Jvm.MethodName)) ∈ wa := wa_2 21 (by decide +kernel) rfl
theorem ww_262 : (Jvm.Cond.selects "java/lang/IllegalStateException" ({ cls := "java/lang/Throwable", name := "fillInStackTrace", desc := "()Ljava/lang/Throwable;" } : Jvm.MethodName) ({ cls := "java/lang/Throwable", name := "fillInStackTrace", desc := "()Ljava/lang/Throwable;" } : Jvm.MethodName)) ∈ wa := wa_2 22 (by decide +kernel) rfl
theorem ww_263 : (Jvm.Cond.selects "java/lang/UnsupportedOperationException" ({ cls := "java/lang/Throwable", name := "fillInStackTrace", desc := "()Ljava/lang/Throwable;" } : Jvm.MethodName) ({ cls := "java/lang/Throwable", name := "fillInStackTrace", desc := "()Ljava/lang/Throwable;" } : Jvm.MethodName)) ∈ wa := wa_2 23 (by decide +kernel) rfl
theorem ww_264 : (Jvm.Cond.selects "java/util/NoSuchElementException" ({ cls := "java/lang/Throwable", name := "fillInStackTrace", desc := "()Ljava/lang/Throwable;" } : Jvm.MethodName) ({ cls := "java/lang/Throwable", name := "fillInStackTrace", desc := "()Ljava/lang/Throwable;" } : Jvm.MethodName)) ∈ wa := wa_2 24 (by decide +kernel) rfl
theorem ww_266 : (Jvm.Cond.methodLink "java/lang/Throwable" (202 : Nat) ({ cls := "java/lang/Throwable", name := "fillInStackTrace", desc := "(I)Ljava/lang/Throwable;" } : Jvm.MethodName)) ∈ wa := wa_2 26 (by decide +kernel) rfl
theorem ww_268 : (Jvm.Cond.instanceMethod ({ cls := "java/lang/Throwable", name := "fillInStackTrace", desc := "(I)Ljava/lang/Throwable;" } : Jvm.MethodName)) ∈ wa := wa_2 28 (by decide +kernel) rfl
theorem ww_269 : (Jvm.Cond.instantiable "java/lang/Throwable" (6 : Nat)) ∈ wa := wa_2 29 (by decide +kernel) rfl
theorem ww_271 : (Jvm.Cond.methodLink "EvenCurveKeys" (175 : Nat) ({ cls := "java/lang/IndexOutOfBoundsException", name := "<init>", desc := "()V" } : Jvm.MethodName)) ∈ wa := wa_2 31 (by decide +kernel) rfl
theorem ww_272 : (Jvm.Cond.instanceMethod ({ cls := "java/lang/IndexOutOfBoundsException", name := "<init>", desc := "()V" } : Jvm.MethodName)) ∈ wa := wa_2 32 (by decide +kernel) rfl
theorem ww_273 : (Jvm.Cond.code ({ cls := "java/lang/IndexOutOfBoundsException", name := "<init>", desc := "()V" } : Jvm.MethodName) prog_13_method_1_code (1 : Nat) (Option.none : Option Jvm.ClassFile.FieldType)) ∈ wa := wa_2 33 (by decide +kernel) rfl
theorem ww_274 : (Jvm.Cond.methodLink "java/lang/IndexOutOfBoundsException" (1 : Nat) ({ cls := "java/lang/RuntimeException", name := "<init>", desc := "()V" } : Jvm.MethodName)) ∈ wa := wa_2 34 (by decide +kernel) rfl
theorem ww_275 : (Jvm.Cond.instanceMethod ({ cls := "java/lang/RuntimeException", name := "<init>", desc := "()V" } : Jvm.MethodName)) ∈ wa := wa_2 35 (by decide +kernel) rfl
theorem ww_276 : (Jvm.Cond.code ({ cls := "java/lang/RuntimeException", name := "<init>", desc := "()V" } : Jvm.MethodName) prog_14_method_1_code (1 : Nat) (Option.none : Option Jvm.ClassFile.FieldType)) ∈ wa := wa_2 36 (by decide +kernel) rfl
theorem ww_277 : (Jvm.Cond.methodLink "java/lang/RuntimeException" (1 : Nat) ({ cls := "java/lang/Exception", name := "<init>", desc := "()V" } : Jvm.MethodName)) ∈ wa := wa_2 37 (by decide +kernel) rfl
theorem ww_278 : (Jvm.Cond.instanceMethod ({ cls := "java/lang/Exception", name := "<init>", desc := "()V" } : Jvm.MethodName)) ∈ wa := wa_2 38 (by decide +kernel) rfl
theorem ww_279 : (Jvm.Cond.code ({ cls := "java/lang/Exception", name := "<init>", desc := "()V" } : Jvm.MethodName) prog_10_method_1_code (1 : Nat) (Option.none : Option Jvm.ClassFile.FieldType)) ∈ wa := wa_2 39 (by decide +kernel) rfl
theorem ww_280 : (Jvm.Cond.methodLink "java/lang/Exception" (1 : Nat) ({ cls := "java/lang/Throwable", name := "<init>", desc := "()V" } : Jvm.MethodName)) ∈ wa := wa_2 40 (by decide +kernel) rfl
theorem ww_281 : (Jvm.Cond.fieldLink "java/lang/Throwable" (198 : Nat) "java/lang/Throwable" "backtrace" "Ljava/lang/Object;") ∈ wa := wa_2 41 (by decide +kernel) rfl
theorem ww_282 : (Jvm.Cond.fieldLink "java/lang/Throwable" (7 : Nat) "java/lang/Throwable" "cause" "Ljava/lang/Throwable;") ∈ wa := wa_2 42 (by decide +kernel) rfl
theorem ww_283 : (Jvm.Cond.fieldLink "java/lang/Throwable" (17 : Nat) "java/lang/Throwable" "stackTrace" "[Ljava/lang/StackTraceElement;") ∈ wa := wa_2 43 (by decide +kernel) rfl
theorem ww_284 : (Jvm.Cond.fieldLink "java/lang/Throwable" (24 : Nat) "java/lang/Throwable" "suppressedExceptions" "Ljava/util/List;") ∈ wa := wa_2 44 (by decide +kernel) rfl
theorem ww_293 : (Jvm.Cond.methodLink "EvenCurveKeys" (38 : Nat) ({ cls := "EvenCurveKeys$Scalars", name := "isUnit", desc := "(J)Z" } : Jvm.MethodName)) ∈ wa := wa_2 53 (by decide +kernel) rfl
theorem ww_294 : (Jvm.Cond.static ({ cls := "EvenCurveKeys$Scalars", name := "isUnit", desc := "(J)Z" } : Jvm.MethodName)) ∈ wa := wa_2 54 (by decide +kernel) rfl
theorem ww_295 : (Jvm.Cond.code ({ cls := "EvenCurveKeys$Scalars", name := "isUnit", desc := "(J)Z" } : Jvm.MethodName) prog_6_method_3_code (2 : Nat) (Option.some Jvm.ClassFile.FieldType.boolean)) ∈ wa := wa_2 55 (by decide +kernel) rfl
theorem ww_296 : (Jvm.Cond.methodLink "EvenCurveKeys" (44 : Nat) ({ cls := "EvenCurveKeys", name := "needArgument", desc := "(Z)V" } : Jvm.MethodName)) ∈ wa := wa_2 56 (by decide +kernel) rfl
theorem ww_297 : (Jvm.Cond.static ({ cls := "EvenCurveKeys", name := "needArgument", desc := "(Z)V" } : Jvm.MethodName)) ∈ wa := wa_2 57 (by decide +kernel) rfl
theorem ww_298 : (Jvm.Cond.code ({ cls := "EvenCurveKeys", name := "needArgument", desc := "(Z)V" } : Jvm.MethodName) prog_1_method_22_code (1 : Nat) (Option.none : Option Jvm.ClassFile.FieldType)) ∈ wa := wa_2 58 (by decide +kernel) rfl
theorem ww_299 : (Jvm.Cond.classLink "EvenCurveKeys" (176 : Nat) "java/lang/IllegalArgumentException") ∈ wa := wa_2 59 (by decide +kernel) rfl
theorem ww_300 : (Jvm.Cond.instantiable "java/lang/IllegalArgumentException" (6 : Nat)) ∈ wa := wa_2 60 (by decide +kernel) rfl
theorem ww_302 : (Jvm.Cond.selects "java/lang/IllegalArgumentException" ({ cls := "java/lang/Throwable", name := "fillInStackTrace", desc := "(I)Ljava/lang/Throwable;" } : Jvm.MethodName) ({ cls := "java/lang/Throwable", name := "fillInStackTrace", desc := "(I)Ljava/lang/Throwable;" } : Jvm.MethodName)) ∈ wa := wa_2 62 (by decide +kernel) rfl
theorem ww_308 : (Jvm.Cond.methodLink "EvenCurveKeys" (178 : Nat) ({ cls := "java/lang/IllegalArgumentException", name := "<init>", desc := "()V" } : Jvm.MethodName)) ∈ wa := wa_2 68 (by decide +kernel) rfl
theorem ww_309 : (Jvm.Cond.instanceMethod ({ cls := "java/lang/IllegalArgumentException", name := "<init>", desc := "()V" } : Jvm.MethodName)) ∈ wa := wa_2 69 (by decide +kernel) rfl
theorem ww_310 : (Jvm.Cond.code ({ cls := "java/lang/IllegalArgumentException", name := "<init>", desc := "()V" } : Jvm.MethodName) prog_11_method_1_code (1 : Nat) (Option.none : Option Jvm.ClassFile.FieldType)) ∈ wa := wa_2 70 (by decide +kernel) rfl
theorem ww_311 : (Jvm.Cond.methodLink "java/lang/IllegalArgumentException" (1 : Nat) ({ cls := "java/lang/RuntimeException", name := "<init>", desc := "()V" } : Jvm.MethodName)) ∈ wa := wa_2 71 (by decide +kernel) rfl
theorem ww_314 : (Jvm.Cond.constantLong "EvenCurveKeys" (50 : Nat) (4411025356 : Int64)) ∈ wa := wa_2 74 (by decide +kernel) rfl
theorem ww_315 : (Jvm.Cond.methodLink "EvenCurveKeys" (52 : Nat) ({ cls := "EvenCurveKeys$Curve", name := "multiple", desc := "(JJ)J" } : Jvm.MethodName)) ∈ wa := wa_2 75 (by decide +kernel) rfl
theorem ww_316 : (Jvm.Cond.methodLink "EvenCurveKeys" (56 : Nat) ({ cls := "EvenCurveKeys", name := "fill", desc := "(IJJ)J" } : Jvm.MethodName)) ∈ wa := wa_2 76 (by decide +kernel) rfl
theorem ww_318 : (Jvm.Cond.instanceMethod ({ cls := "EvenCurveKeys", name := "fill", desc := "(IJJ)J" } : Jvm.MethodName)) ∈ wa := wa_2 78 (by decide +kernel) rfl
theorem ww_319 : (Jvm.Cond.code ({ cls := "EvenCurveKeys", name := "fill", desc := "(IJJ)J" } : Jvm.MethodName) prog_1_method_25_code (6 : Nat) (Option.some Jvm.ClassFile.FieldType.long)) ∈ wa := wa_2 79 (by decide +kernel) rfl
theorem ww_320 : (Jvm.Cond.methodLink "EvenCurveKeysLaw" (92 : Nat) ({ cls := "EvenCurveKeysLaw", name := "open", desc := "(LEvenCurveKeys;IJ)I" } : Jvm.MethodName)) ∈ wa := wa_2 80 (by decide +kernel) rfl
theorem ww_321 : (Jvm.Cond.static ({ cls := "EvenCurveKeysLaw", name := "open", desc := "(LEvenCurveKeys;IJ)I" } : Jvm.MethodName)) ∈ wa := wa_2 81 (by decide +kernel) rfl
theorem ww_322 : (Jvm.Cond.codeWith ({ cls := "EvenCurveKeysLaw", name := "open", desc := "(LEvenCurveKeys;IJ)I" } : Jvm.MethodName) method_4_code (5 : Nat) (Option.some Jvm.ClassFile.FieldType.int) [((0 : Nat), (6 : Nat), (9 : Nat), (13 : Nat)), ((0 : Nat), (6 : Nat), (13 : Nat), (15 : Nat))]) ∈ wa := wa_2 82 (by decide +kernel) rfl
theorem ww_323 : (Jvm.Cond.methodLink "EvenCurveKeysLaw" (17 : Nat) ({ cls := "EvenCurveKeys", name := "open", desc := "(IJ)V" } : Jvm.MethodName)) ∈ wa := wa_2 83 (by decide +kernel) rfl
theorem ww_324 : (Jvm.Cond.instanceMethod ({ cls := "EvenCurveKeys", name := "open", desc := "(IJ)V" } : Jvm.MethodName)) ∈ wa := wa_2 84 (by decide +kernel) rfl
theorem ww_325 : (Jvm.Cond.selects "EvenCurveKeys" ({ cls := "EvenCurveKeys", name := "open", desc := "(IJ)V" } : Jvm.MethodName) ({ cls := "EvenCurveKeys", name := "open", desc := "(IJ)V" } : Jvm.MethodName)) ∈ wa := wa_2 85 (by decide +kernel) rfl
theorem ww_326 : (Jvm.Cond.code ({ cls := "EvenCurveKeys", name := "open", desc := "(IJ)V" } : Jvm.MethodName) prog_1_method_3_code (6 : Nat) (Option.none : Option Jvm.ClassFile.FieldType)) ∈ wa := wa_2 86 (by decide +kernel) rfl
theorem ww_327 : (Jvm.Cond.methodLink "EvenCurveKeys" (60 : Nat) ({ cls := "EvenCurveKeys$Curve", name := "fromCode", desc := "(J)J" } : Jvm.MethodName)) ∈ wa := wa_2 87 (by decide +kernel) rfl
theorem ww_328 : (Jvm.Cond.static ({ cls := "EvenCurveKeys$Curve", name := "fromCode", desc := "(J)J" } : Jvm.MethodName)) ∈ wa := wa_2 88 (by decide +kernel) rfl
theorem ww_329 : (Jvm.Cond.code ({ cls := "EvenCurveKeys$Curve", name := "fromCode", desc := "(J)J" } : Jvm.MethodName) prog_2_method_9_code (4 : Nat) (Option.some Jvm.ClassFile.FieldType.long)) ∈ wa := wa_2 89 (by decide +kernel) rfl
theorem ww_330 : (Jvm.Cond.methodLink "EvenCurveKeys$Curve" (43 : Nat) ({ cls := "EvenCurveKeys$Curve", name := "pointAt", desc := "(JZ)J" } : Jvm.MethodName)) ∈ wa := wa_2 90 (by decide +kernel) rfl
theorem ww_331 : (Jvm.Cond.methodLink "EvenCurveKeysLaw" (96 : Nat) ({ cls := "EvenCurveKeysLaw", name := "code", desc := "(LEvenCurveKeys;I[J)I" } : Jvm.MethodName)) ∈ wa := wa_2 91 (by decide +kernel) rfl
theorem ww_332 : (Jvm.Cond.static ({ cls := "EvenCurveKeysLaw", name := "code", desc := "(LEvenCurveKeys;I[J)I" } : Jvm.MethodName)) ∈ wa := wa_2 92 (by decide +kernel) rfl
theorem ww_333 : (Jvm.Cond.codeWith ({ cls := "EvenCurveKeysLaw", name := "code", desc := "(LEvenCurveKeys;I[J)I" } : Jvm.MethodName) method_5_code (4 : Nat) (Option.some Jvm.ClassFile.FieldType.int) [((0 : Nat), (8 : Nat), (11 : Nat), (13 : Nat))]) ∈ wa := wa_2 93 (by decide +kernel) rfl
theorem ww_334 : (Jvm.Cond.methodLink "EvenCurveKeysLaw" (21 : Nat) ({ cls := "EvenCurveKeys", name := "code", desc := "(I)J" } : Jvm.MethodName)) ∈ wa := wa_2 94 (by decide +kernel) rfl
theorem ww_335 : (Jvm.Cond.instanceMethod ({ cls := "EvenCurveKeys", name := "code", desc := "(I)J" } : Jvm.MethodName)) ∈ wa := wa_2 95 (by decide +kernel) rfl
theorem ww_336 : (Jvm.Cond.selects "EvenCurveKeys" ({ cls := "EvenCurveKeys", name := "code", desc := "(I)J" } : Jvm.MethodName) ({ cls := "EvenCurveKeys", name := "code", desc := "(I)J" } : Jvm.MethodName)) ∈ wa := wa_2 96 (by decide +kernel) rfl
theorem ww_337 : (Jvm.Cond.code ({ cls := "EvenCurveKeys", name := "code", desc := "(I)J" } : Jvm.MethodName) prog_1_method_4_code (2 : Nat) (Option.some Jvm.ClassFile.FieldType.long)) ∈ wa := wa_2 97 (by decide +kernel) rfl
theorem ww_338 : (Jvm.Cond.methodLink "EvenCurveKeysLaw" (104 : Nat) ({ cls := "EvenCurveKeysLaw", name := "tweak", desc := "(LEvenCurveKeys;IIZ[J)I" } : Jvm.MethodName)) ∈ wa := wa_2 98 (by decide +kernel) rfl
theorem ww_339 : (Jvm.Cond.static ({ cls := "EvenCurveKeysLaw", name := "tweak", desc := "(LEvenCurveKeys;IIZ[J)I" } : Jvm.MethodName)) ∈ wa := wa_2 99 (by decide +kernel) rfl
theorem ww_340 : (Jvm.Cond.codeWith ({ cls := "EvenCurveKeysLaw", name := "tweak", desc := "(LEvenCurveKeys;IIZ[J)I" } : Jvm.MethodName) method_6_code (6 : Nat) (Option.some Jvm.ClassFile.FieldType.int) [((0 : Nat), (11 : Nat), (14 : Nat), (13 : Nat)), ((0 : Nat), (11 : Nat), (18 : Nat), (29 : Nat)), ((0 : Nat), (11 : Nat), (22 : Nat), (15 : Nat))]) ∈ wa := wa_2 100 (by decide +kernel) rfl
theorem ww_341 : (Jvm.Cond.classLink "EvenCurveKeysLaw" (29 : Nat) "java/util/NoSuchElementException") ∈ wa := wa_2 101 (by decide +kernel) rfl
theorem ww_342 : (Jvm.Cond.methodLink "EvenCurveKeysLaw" (25 : Nat) ({ cls := "EvenCurveKeys", name := "tweak", desc := "(IIZ)J" } : Jvm.MethodName)) ∈ wa := wa_2 102 (by decide +kernel) rfl
theorem ww_343 : (Jvm.Cond.instanceMethod ({ cls := "EvenCurveKeys", name := "tweak", desc := "(IIZ)J" } : Jvm.MethodName)) ∈ wa := wa_2 103 (by decide +kernel) rfl
theorem ww_344 : (Jvm.Cond.selects "EvenCurveKeys" ({ cls := "EvenCurveKeys", name := "tweak", desc := "(IIZ)J" } : Jvm.MethodName) ({ cls := "EvenCurveKeys", name := "tweak", desc := "(IIZ)J" } : Jvm.MethodName)) ∈ wa := wa_2 104 (by decide +kernel) rfl
theorem ww_345 : (Jvm.Cond.code ({ cls := "EvenCurveKeys", name := "tweak", desc := "(IIZ)J" } : Jvm.MethodName) prog_1_method_6_code (8 : Nat) (Option.some Jvm.ClassFile.FieldType.long)) ∈ wa := wa_2 105 (by decide +kernel) rfl
theorem ww_346 : (Jvm.Cond.methodLink "EvenCurveKeys" (71 : Nat) ({ cls := "EvenCurveKeys", name := "pointOf", desc := "(I)J" } : Jvm.MethodName)) ∈ wa := wa_2 106 (by decide +kernel) rfl
theorem ww_348 : (Jvm.Cond.instanceMethod ({ cls := "EvenCurveKeys", name := "pointOf", desc := "(I)J" } : Jvm.MethodName)) ∈ wa := wa_2 108 (by decide +kernel) rfl
theorem ww_349 : (Jvm.Cond.code ({ cls := "EvenCurveKeys", name := "pointOf", desc := "(I)J" } : Jvm.MethodName) prog_1_method_23_code (2 : Nat) (Option.some Jvm.ClassFile.FieldType.long)) ∈ wa := wa_2 109 (by decide +kernel) rfl
theorem ww_350 : (Jvm.Cond.classLink "EvenCurveKeys" (179 : Nat) "java/util/NoSuchElementException") ∈ wa := wa_2 110 (by decide +kernel) rfl
theorem ww_351 : (Jvm.Cond.instantiable "java/util/NoSuchElementException" (6 : Nat)) ∈ wa := wa_2 111 (by decide +kernel) rfl
theorem ww_353 : (Jvm.Cond.selects "java/util/NoSuchElementException" ({ cls := "java/lang/Throwable", name := "fillInStackTrace", desc := "(I)Ljava/lang/Throwable;" } : Jvm.MethodName) ({ cls := "java/lang/Throwable", name := "fillInStackTrace", desc := "(I)Ljava/lang/Throwable;" } : Jvm.MethodName)) ∈ wa := wa_2 113 (by decide +kernel) rfl
theorem ww_359 : (Jvm.Cond.methodLink "EvenCurveKeys" (181 : Nat) ({ cls := "java/util/NoSuchElementException", name := "<init>", desc := "()V" } : Jvm.MethodName)) ∈ wa := wa_2 119 (by decide +kernel) rfl
theorem ww_360 : (Jvm.Cond.instanceMethod ({ cls := "java/util/NoSuchElementException", name := "<init>", desc := "()V" } : Jvm.MethodName)) ∈ wa := wa_2 120 (by decide +kernel) rfl
theorem ww_361 : (Jvm.Cond.code ({ cls := "java/util/NoSuchElementException", name := "<init>", desc := "()V" } : Jvm.MethodName) prog_17_method_1_code (1 : Nat) (Option.none : Option Jvm.ClassFile.FieldType)) ∈ wa := wa_2 121 (by decide +kernel) rfl
theorem ww_362 : (Jvm.Cond.methodLink "java/util/NoSuchElementException" (1 : Nat) ({ cls := "java/lang/RuntimeException", name := "<init>", desc := "()V" } : Jvm.MethodName)) ∈ wa := wa_2 122 (by decide +kernel) rfl
theorem ww_365 : (Jvm.Cond.methodLink "EvenCurveKeys" (75 : Nat) ({ cls := "EvenCurveKeys$Scalars", name := "has", desc := "(J)Z" } : Jvm.MethodName)) ∈ wa := wa_2 125 (by decide +kernel) rfl
theorem ww_366 : (Jvm.Cond.methodLink "EvenCurveKeys" (78 : Nat) ({ cls := "EvenCurveKeys$Curve", name := "sum", desc := "(JJ)J" } : Jvm.MethodName)) ∈ wa := wa_2 126 (by decide +kernel) rfl
theorem ww_367 : (Jvm.Cond.methodLink "EvenCurveKeys" (81 : Nat) ({ cls := "EvenCurveKeys", name := "movedSecret", desc := "(JJZ)J" } : Jvm.MethodName)) ∈ wa := wa_2 127 (by decide +kernel) rfl
theorem ww_368 : (Jvm.Cond.static ({ cls := "EvenCurveKeys", name := "movedSecret", desc := "(JJZ)J" } : Jvm.MethodName)) ∈ wa := wa_2 128 (by decide +kernel) rfl
theorem ww_369 : (Jvm.Cond.code ({ cls := "EvenCurveKeys", name := "movedSecret", desc := "(JJZ)J" } : Jvm.MethodName) prog_1_method_26_code (5 : Nat) (Option.some Jvm.ClassFile.FieldType.long)) ∈ wa := wa_2 129 (by decide +kernel) rfl
theorem ww_370 : (Jvm.Cond.methodLink "EvenCurveKeysLaw" (108 : Nat) ({ cls := "EvenCurveKeysLaw", name := "combine", desc := "(LEvenCurveKeys;III[J)I" } : Jvm.MethodName)) ∈ wa := wa_2 130 (by decide +kernel) rfl
theorem ww_371 : (Jvm.Cond.static ({ cls := "EvenCurveKeysLaw", name := "combine", desc := "(LEvenCurveKeys;III[J)I" } : Jvm.MethodName)) ∈ wa := wa_2 131 (by decide +kernel) rfl
theorem ww_372 : (Jvm.Cond.codeWith ({ cls := "EvenCurveKeysLaw", name := "combine", desc := "(LEvenCurveKeys;III[J)I" } : Jvm.MethodName) method_7_code (6 : Nat) (Option.some Jvm.ClassFile.FieldType.int) [((0 : Nat), (11 : Nat), (14 : Nat), (13 : Nat)), ((0 : Nat), (11 : Nat), (18 : Nat), (29 : Nat)), ((0 : Nat), (11 : Nat), (22 : Nat), (15 : Nat))]) ∈ wa := wa_2 132 (by decide +kernel) rfl
theorem ww_373 : (Jvm.Cond.methodLink "EvenCurveKeysLaw" (31 : Nat) ({ cls := "EvenCurveKeys", name := "combine", desc := "(III)J" } : Jvm.MethodName)) ∈ wa := wa_2 133 (by decide +kernel) rfl
theorem ww_374 : (Jvm.Cond.instanceMethod ({ cls := "EvenCurveKeys", name := "combine", desc := "(III)J" } : Jvm.MethodName)) ∈ wa := wa_2 134 (by decide +kernel) rfl
theorem ww_375 : (Jvm.Cond.selects "EvenCurveKeys" ({ cls := "EvenCurveKeys", name := "combine", desc := "(III)J" } : Jvm.MethodName) ({ cls := "EvenCurveKeys", name := "combine", desc := "(III)J" } : Jvm.MethodName)) ∈ wa := wa_2 135 (by decide +kernel) rfl
theorem ww_376 : (Jvm.Cond.code ({ cls := "EvenCurveKeys", name := "combine", desc := "(III)J" } : Jvm.MethodName) prog_1_method_7_code (6 : Nat) (Option.some Jvm.ClassFile.FieldType.long)) ∈ wa := wa_2 136 (by decide +kernel) rfl
theorem ww_377 : (Jvm.Cond.methodLink "EvenCurveKeysLaw" (112 : Nat) ({ cls := "EvenCurveKeysLaw", name := "linear", desc := "(LEvenCurveKeys;III[J)I" } : Jvm.MethodName)) ∈ wa := wa_2 137 (by decide +kernel) rfl
theorem ww_378 : (Jvm.Cond.static ({ cls := "EvenCurveKeysLaw", name := "linear", desc := "(LEvenCurveKeys;III[J)I" } : Jvm.MethodName)) ∈ wa := wa_2 138 (by decide +kernel) rfl
theorem ww_379 : (Jvm.Cond.codeWith ({ cls := "EvenCurveKeysLaw", name := "linear", desc := "(LEvenCurveKeys;III[J)I" } : Jvm.MethodName) method_8_code (6 : Nat) (Option.some Jvm.ClassFile.FieldType.int) [((0 : Nat), (11 : Nat), (14 : Nat), (13 : Nat)), ((0 : Nat), (11 : Nat), (18 : Nat), (29 : Nat)), ((0 : Nat), (11 : Nat), (22 : Nat), (15 : Nat))]) ∈ wa := wa_2 139 (by decide +kernel) rfl
theorem ww_380 : (Jvm.Cond.methodLink "EvenCurveKeysLaw" (35 : Nat) ({ cls := "EvenCurveKeys", name := "linear", desc := "(III)J" } : Jvm.MethodName)) ∈ wa := wa_2 140 (by decide +kernel) rfl
theorem ww_381 : (Jvm.Cond.instanceMethod ({ cls := "EvenCurveKeys", name := "linear", desc := "(III)J" } : Jvm.MethodName)) ∈ wa := wa_2 141 (by decide +kernel) rfl
theorem ww_382 : (Jvm.Cond.selects "EvenCurveKeys" ({ cls := "EvenCurveKeys", name := "linear", desc := "(III)J" } : Jvm.MethodName) ({ cls := "EvenCurveKeys", name := "linear", desc := "(III)J" } : Jvm.MethodName)) ∈ wa := wa_2 142 (by decide +kernel) rfl
theorem ww_383 : (Jvm.Cond.code ({ cls := "EvenCurveKeys", name := "linear", desc := "(III)J" } : Jvm.MethodName) prog_1_method_8_code (6 : Nat) (Option.some Jvm.ClassFile.FieldType.long)) ∈ wa := wa_2 143 (by decide +kernel) rfl
theorem ww_384 : (Jvm.Cond.methodLink "EvenCurveKeys" (85 : Nat) ({ cls := "EvenCurveKeys$Curve", name := "sumOfMultiples", desc := "(JJJJ)J" } : Jvm.MethodName)) ∈ wa := wa_2 144 (by decide +kernel) rfl
theorem ww_385 : (Jvm.Cond.methodLink "EvenCurveKeysLaw" (115 : Nat) ({ cls := "EvenCurveKeysLaw", name := "sign", desc := "(LEvenCurveKeys;IJ[J)I" } : Jvm.MethodName)) ∈ wa := wa_2 145 (by decide +kernel) rfl
theorem ww_386 : (Jvm.Cond.static ({ cls := "EvenCurveKeysLaw", name := "sign", desc := "(LEvenCurveKeys;IJ[J)I" } : Jvm.MethodName)) ∈ wa := wa_2 146 (by decide +kernel) rfl
theorem ww_387 : (Jvm.Cond.codeWith ({ cls := "EvenCurveKeysLaw", name := "sign", desc := "(LEvenCurveKeys;IJ[J)I" } : Jvm.MethodName) method_9_code (6 : Nat) (Option.some Jvm.ClassFile.FieldType.int) [((0 : Nat), (10 : Nat), (13 : Nat), (13 : Nat)), ((0 : Nat), (10 : Nat), (17 : Nat), (42 : Nat)), ((0 : Nat), (10 : Nat), (21 : Nat), (44 : Nat))]) ∈ wa := wa_2 147 (by decide +kernel) rfl
theorem ww_388 : (Jvm.Cond.classLink "EvenCurveKeysLaw" (42 : Nat) "java/lang/IllegalStateException") ∈ wa := wa_2 148 (by decide +kernel) rfl
theorem ww_389 : (Jvm.Cond.classLink "EvenCurveKeysLaw" (44 : Nat) "java/lang/UnsupportedOperationException") ∈ wa := wa_2 149 (by decide +kernel) rfl
theorem ww_390 : (Jvm.Cond.methodLink "EvenCurveKeysLaw" (38 : Nat) ({ cls := "EvenCurveKeys", name := "sign", desc := "(IJ)J" } : Jvm.MethodName)) ∈ wa := wa_2 150 (by decide +kernel) rfl
theorem ww_391 : (Jvm.Cond.instanceMethod ({ cls := "EvenCurveKeys", name := "sign", desc := "(IJ)J" } : Jvm.MethodName)) ∈ wa := wa_2 151 (by decide +kernel) rfl
theorem ww_392 : (Jvm.Cond.selects "EvenCurveKeys" ({ cls := "EvenCurveKeys", name := "sign", desc := "(IJ)J" } : Jvm.MethodName) ({ cls := "EvenCurveKeys", name := "sign", desc := "(IJ)J" } : Jvm.MethodName)) ∈ wa := wa_2 152 (by decide +kernel) rfl
theorem ww_393 : (Jvm.Cond.code ({ cls := "EvenCurveKeys", name := "sign", desc := "(IJ)J" } : Jvm.MethodName) prog_1_method_9_code (19 : Nat) (Option.some Jvm.ClassFile.FieldType.long)) ∈ wa := wa_2 153 (by decide +kernel) rfl
theorem ww_394 : (Jvm.Cond.methodLink "EvenCurveKeys" (89 : Nat) ({ cls := "EvenCurveKeys", name := "secretOf", desc := "(I)J" } : Jvm.MethodName)) ∈ wa := wa_2 154 (by decide +kernel) rfl
theorem ww_396 : (Jvm.Cond.instanceMethod ({ cls := "EvenCurveKeys", name := "secretOf", desc := "(I)J" } : Jvm.MethodName)) ∈ wa := wa_2 156 (by decide +kernel) rfl
theorem ww_397 : (Jvm.Cond.code ({ cls := "EvenCurveKeys", name := "secretOf", desc := "(I)J" } : Jvm.MethodName) prog_1_method_24_code (2 : Nat) (Option.some Jvm.ClassFile.FieldType.long)) ∈ wa := wa_2 157 (by decide +kernel) rfl
theorem ww_398 : (Jvm.Cond.classLink "EvenCurveKeys" (182 : Nat) "java/lang/IllegalStateException") ∈ wa := wa_2 158 (by decide +kernel) rfl
theorem ww_399 : (Jvm.Cond.instantiable "java/lang/IllegalStateException" (6 : Nat)) ∈ wa := wa_2 159 (by decide +kernel) rfl
theorem ww_401 : (Jvm.Cond.selects "java/lang/IllegalStateException" ({ cls := "java/lang/Throwable", name := "fillInStackTrace", desc := "(I)Ljava/lang/Throwable;" } : Jvm.MethodName) ({ cls := "java/lang/Throwable", name := "fillInStackTrace", desc := "(I)Ljava/lang/Throwable;" } : Jvm.MethodName)) ∈ wa := wa_2 161 (by decide +kernel) rfl
theorem ww_407 : (Jvm.Cond.methodLink "EvenCurveKeys" (184 : Nat) ({ cls := "java/lang/IllegalStateException", name := "<init>", desc := "()V" } : Jvm.MethodName)) ∈ wa := wa_2 167 (by decide +kernel) rfl
theorem ww_408 : (Jvm.Cond.instanceMethod ({ cls := "java/lang/IllegalStateException", name := "<init>", desc := "()V" } : Jvm.MethodName)) ∈ wa := wa_2 168 (by decide +kernel) rfl
theorem ww_409 : (Jvm.Cond.code ({ cls := "java/lang/IllegalStateException", name := "<init>", desc := "()V" } : Jvm.MethodName) prog_12_method_1_code (1 : Nat) (Option.none : Option Jvm.ClassFile.FieldType)) ∈ wa := wa_2 169 (by decide +kernel) rfl
theorem ww_410 : (Jvm.Cond.methodLink "java/lang/IllegalStateException" (1 : Nat) ({ cls := "java/lang/RuntimeException", name := "<init>", desc := "()V" } : Jvm.MethodName)) ∈ wa := wa_2 170 (by decide +kernel) rfl
theorem ww_413 : (Jvm.Cond.methodLink "EvenCurveKeys" (92 : Nat) ({ cls := "EvenCurveKeys", name := "digest", desc := "(J)J" } : Jvm.MethodName)) ∈ wa := wa_2 173 (by decide +kernel) rfl
theorem ww_414 : (Jvm.Cond.static ({ cls := "EvenCurveKeys", name := "digest", desc := "(J)J" } : Jvm.MethodName)) ∈ wa := wa_2 174 (by decide +kernel) rfl
theorem ww_415 : (Jvm.Cond.code ({ cls := "EvenCurveKeys", name := "digest", desc := "(J)J" } : Jvm.MethodName) prog_1_method_30_code (2 : Nat) (Option.some Jvm.ClassFile.FieldType.long)) ∈ wa := wa_2 175 (by decide +kernel) rfl
theorem ww_416 : (Jvm.Cond.constantLong "EvenCurveKeys" (191 : Nat) (17 : Int64)) ∈ wa := wa_2 176 (by decide +kernel) rfl
theorem ww_417 : (Jvm.Cond.methodLink "EvenCurveKeys" (98 : Nat) ({ cls := "EvenCurveKeys$Curve", name := "xOf", desc := "(J)J" } : Jvm.MethodName)) ∈ wa := wa_2 177 (by decide +kernel) rfl
theorem ww_418 : (Jvm.Cond.methodLink "EvenCurveKeys" (103 : Nat) ({ cls := "EvenCurveKeys$Scalars", name := "quotient", desc := "(JJ)J" } : Jvm.MethodName)) ∈ wa := wa_2 178 (by decide +kernel) rfl
theorem ww_419 : (Jvm.Cond.static ({ cls := "EvenCurveKeys$Scalars", name := "quotient", desc := "(JJ)J" } : Jvm.MethodName)) ∈ wa := wa_2 179 (by decide +kernel) rfl
theorem ww_420 : (Jvm.Cond.code ({ cls := "EvenCurveKeys$Scalars", name := "quotient", desc := "(JJ)J" } : Jvm.MethodName) prog_6_method_4_code (4 : Nat) (Option.some Jvm.ClassFile.FieldType.long)) ∈ wa := wa_2 180 (by decide +kernel) rfl
theorem ww_422 : (Jvm.Cond.methodLink "EvenCurveKeys" (106 : Nat) ({ cls := "EvenCurveKeys", name := "markOf", desc := "(JJ)I" } : Jvm.MethodName)) ∈ wa := wa_2 182 (by decide +kernel) rfl
theorem ww_423 : (Jvm.Cond.static ({ cls := "EvenCurveKeys", name := "markOf", desc := "(JJ)I" } : Jvm.MethodName)) ∈ wa := wa_2 183 (by decide +kernel) rfl
theorem ww_424 : (Jvm.Cond.code ({ cls := "EvenCurveKeys", name := "markOf", desc := "(JJ)I" } : Jvm.MethodName) prog_1_method_27_code (5 : Nat) (Option.some Jvm.ClassFile.FieldType.int)) ∈ wa := wa_2 184 (by decide +kernel) rfl
theorem ww_425 : (Jvm.Cond.methodLink "EvenCurveKeys" (132 : Nat) ({ cls := "EvenCurveKeys$Curve", name := "isOdd", desc := "(J)Z" } : Jvm.MethodName)) ∈ wa := wa_2 185 (by decide +kernel) rfl
theorem ww_426 : (Jvm.Cond.constantLong "EvenCurveKeys" (112 : Nat) (536864538 : Int64)) ∈ wa := wa_2 186 (by decide +kernel) rfl
theorem ww_427 : (Jvm.Cond.classLink "EvenCurveKeys" (114 : Nat) "java/lang/UnsupportedOperationException") ∈ wa := wa_2 187 (by decide +kernel) rfl
theorem ww_428 : (Jvm.Cond.instantiable "java/lang/UnsupportedOperationException" (6 : Nat)) ∈ wa := wa_2 188 (by decide +kernel) rfl
theorem ww_430 : (Jvm.Cond.selects "java/lang/UnsupportedOperationException" ({ cls := "java/lang/Throwable", name := "fillInStackTrace", desc := "(I)Ljava/lang/Throwable;" } : Jvm.MethodName) ({ cls := "java/lang/Throwable", name := "fillInStackTrace", desc := "(I)Ljava/lang/Throwable;" } : Jvm.MethodName)) ∈ wa := wa_2 190 (by decide +kernel) rfl
theorem ww_436 : (Jvm.Cond.methodLink "EvenCurveKeys" (116 : Nat) ({ cls := "java/lang/UnsupportedOperationException", name := "<init>", desc := "()V" } : Jvm.MethodName)) ∈ wa := wa_2 196 (by decide +kernel) rfl
theorem ww_437 : (Jvm.Cond.instanceMethod ({ cls := "java/lang/UnsupportedOperationException", name := "<init>", desc := "()V" } : Jvm.MethodName)) ∈ wa := wa_2 197 (by decide +kernel) rfl
theorem ww_438 : (Jvm.Cond.code ({ cls := "java/lang/UnsupportedOperationException", name := "<init>", desc := "()V" } : Jvm.MethodName) prog_16_method_1_code (1 : Nat) (Option.none : Option Jvm.ClassFile.FieldType)) ∈ wa := wa_2 198 (by decide +kernel) rfl
theorem ww_439 : (Jvm.Cond.methodLink "java/lang/UnsupportedOperationException" (1 : Nat) ({ cls := "java/lang/RuntimeException", name := "<init>", desc := "()V" } : Jvm.MethodName)) ∈ wa := wa_2 199 (by decide +kernel) rfl
theorem ww_442 : (Jvm.Cond.methodLink "EvenCurveKeysLaw" (123 : Nat) ({ cls := "EvenCurveKeysLaw", name := "good", desc := "(LEvenCurveKeys;IJII[J)I" } : Jvm.MethodName)) ∈ wa := wa_2 202 (by decide +kernel) rfl
theorem ww_443 : (Jvm.Cond.static ({ cls := "EvenCurveKeysLaw", name := "good", desc := "(LEvenCurveKeys;IJII[J)I" } : Jvm.MethodName)) ∈ wa := wa_2 203 (by decide +kernel) rfl
theorem ww_444 : (Jvm.Cond.codeWith ({ cls := "EvenCurveKeysLaw", name := "good", desc := "(LEvenCurveKeys;IJII[J)I" } : Jvm.MethodName) method_10_code (8 : Nat) (Option.some Jvm.ClassFile.FieldType.int) [((0 : Nat), (22 : Nat), (25 : Nat), (13 : Nat)), ((0 : Nat), (22 : Nat), (29 : Nat), (29 : Nat))]) ∈ wa := wa_2 204 (by decide +kernel) rfl
theorem ww_445 : (Jvm.Cond.methodLink "EvenCurveKeysLaw" (46 : Nat) ({ cls := "EvenCurveKeys", name := "good", desc := "(IJII)Z" } : Jvm.MethodName)) ∈ wa := wa_2 205 (by decide +kernel) rfl
theorem ww_446 : (Jvm.Cond.instanceMethod ({ cls := "EvenCurveKeys", name := "good", desc := "(IJII)Z" } : Jvm.MethodName)) ∈ wa := wa_2 206 (by decide +kernel) rfl
theorem ww_447 : (Jvm.Cond.selects "EvenCurveKeys" ({ cls := "EvenCurveKeys", name := "good", desc := "(IJII)Z" } : Jvm.MethodName) ({ cls := "EvenCurveKeys", name := "good", desc := "(IJII)Z" } : Jvm.MethodName)) ∈ wa := wa_2 207 (by decide +kernel) rfl
theorem ww_448 : (Jvm.Cond.code ({ cls := "EvenCurveKeys", name := "good", desc := "(IJII)Z" } : Jvm.MethodName) prog_1_method_11_code (14 : Nat) (Option.some Jvm.ClassFile.FieldType.boolean)) ∈ wa := wa_2 208 (by decide +kernel) rfl
theorem ww_449 : (Jvm.Cond.methodLink "EvenCurveKeysLaw" (127 : Nat) ({ cls := "EvenCurveKeysLaw", name := "recover", desc := "(LEvenCurveKeys;IJIII[J)I" } : Jvm.MethodName)) ∈ wa := wa_2 209 (by decide +kernel) rfl
theorem ww_450 : (Jvm.Cond.static ({ cls := "EvenCurveKeysLaw", name := "recover", desc := "(LEvenCurveKeys;IJIII[J)I" } : Jvm.MethodName)) ∈ wa := wa_2 210 (by decide +kernel) rfl
theorem ww_451 : (Jvm.Cond.codeWith ({ cls := "EvenCurveKeysLaw", name := "recover", desc := "(LEvenCurveKeys;IJIII[J)I" } : Jvm.MethodName) method_11_code (9 : Nat) (Option.some Jvm.ClassFile.FieldType.int) [((0 : Nat), (16 : Nat), (19 : Nat), (13 : Nat)), ((0 : Nat), (16 : Nat), (23 : Nat), (15 : Nat))]) ∈ wa := wa_2 211 (by decide +kernel) rfl
theorem ww_452 : (Jvm.Cond.methodLink "EvenCurveKeysLaw" (50 : Nat) ({ cls := "EvenCurveKeys", name := "recover", desc := "(IJIII)J" } : Jvm.MethodName)) ∈ wa := wa_2 212 (by decide +kernel) rfl
theorem ww_453 : (Jvm.Cond.instanceMethod ({ cls := "EvenCurveKeys", name := "recover", desc := "(IJIII)J" } : Jvm.MethodName)) ∈ wa := wa_2 213 (by decide +kernel) rfl
theorem ww_454 : (Jvm.Cond.selects "EvenCurveKeys" ({ cls := "EvenCurveKeys", name := "recover", desc := "(IJIII)J" } : Jvm.MethodName) ({ cls := "EvenCurveKeys", name := "recover", desc := "(IJIII)J" } : Jvm.MethodName)) ∈ wa := wa_2 214 (by decide +kernel) rfl
theorem ww_455 : (Jvm.Cond.code ({ cls := "EvenCurveKeys", name := "recover", desc := "(IJIII)J" } : Jvm.MethodName) prog_1_method_12_code (17 : Nat) (Option.some Jvm.ClassFile.FieldType.long)) ∈ wa := wa_2 215 (by decide +kernel) rfl
theorem ww_456 : (Jvm.Cond.methodLink "EvenCurveKeysLaw" (131 : Nat) ({ cls := "EvenCurveKeysLaw", name := "prove", desc := "(LEvenCurveKeys;IJJ[J)I" } : Jvm.MethodName)) ∈ wa := wa_2 216 (by decide +kernel) rfl
theorem ww_457 : (Jvm.Cond.static ({ cls := "EvenCurveKeysLaw", name := "prove", desc := "(LEvenCurveKeys;IJJ[J)I" } : Jvm.MethodName)) ∈ wa := wa_2 217 (by decide +kernel) rfl
theorem ww_458 : (Jvm.Cond.codeWith ({ cls := "EvenCurveKeysLaw", name := "prove", desc := "(LEvenCurveKeys;IJJ[J)I" } : Jvm.MethodName) method_12_code (8 : Nat) (Option.some Jvm.ClassFile.FieldType.int) [((0 : Nat), (12 : Nat), (15 : Nat), (13 : Nat)), ((0 : Nat), (12 : Nat), (19 : Nat), (42 : Nat)), ((0 : Nat), (12 : Nat), (23 : Nat), (44 : Nat))]) ∈ wa := wa_2 218 (by decide +kernel) rfl
theorem ww_459 : (Jvm.Cond.methodLink "EvenCurveKeysLaw" (54 : Nat) ({ cls := "EvenCurveKeys", name := "prove", desc := "(IJJ)J" } : Jvm.MethodName)) ∈ wa := wa_2 219 (by decide +kernel) rfl
theorem ww_460 : (Jvm.Cond.instanceMethod ({ cls := "EvenCurveKeys", name := "prove", desc := "(IJJ)J" } : Jvm.MethodName)) ∈ wa := wa_2 220 (by decide +kernel) rfl
theorem ww_461 : (Jvm.Cond.selects "EvenCurveKeys" ({ cls := "EvenCurveKeys", name := "prove", desc := "(IJJ)J" } : Jvm.MethodName) ({ cls := "EvenCurveKeys", name := "prove", desc := "(IJJ)J" } : Jvm.MethodName)) ∈ wa := wa_2 221 (by decide +kernel) rfl
theorem ww_462 : (Jvm.Cond.code ({ cls := "EvenCurveKeys", name := "prove", desc := "(IJJ)J" } : Jvm.MethodName) prog_1_method_13_code (20 : Nat) (Option.some Jvm.ClassFile.FieldType.long)) ∈ wa := wa_2 222 (by decide +kernel) rfl
theorem ww_463 : (Jvm.Cond.methodLink "EvenCurveKeys" (117 : Nat) ({ cls := "EvenCurveKeys", name := "evenScalar", desc := "(JJ)J" } : Jvm.MethodName)) ∈ wa := wa_2 223 (by decide +kernel) rfl
theorem ww_464 : (Jvm.Cond.static ({ cls := "EvenCurveKeys", name := "evenScalar", desc := "(JJ)J" } : Jvm.MethodName)) ∈ wa := wa_2 224 (by decide +kernel) rfl
theorem ww_465 : (Jvm.Cond.code ({ cls := "EvenCurveKeys", name := "evenScalar", desc := "(JJ)J" } : Jvm.MethodName) prog_1_method_28_code (4 : Nat) (Option.some Jvm.ClassFile.FieldType.long)) ∈ wa := wa_2 225 (by decide +kernel) rfl
theorem ww_466 : (Jvm.Cond.constantLong "EvenCurveKeys" (120 : Nat) (23 : Int64)) ∈ wa := wa_2 226 (by decide +kernel) rfl
theorem ww_467 : (Jvm.Cond.methodLink "EvenCurveKeys" (122 : Nat) ({ cls := "EvenCurveKeys", name := "challenge", desc := "(JJJ)J" } : Jvm.MethodName)) ∈ wa := wa_2 227 (by decide +kernel) rfl
theorem ww_468 : (Jvm.Cond.methodLink "EvenCurveKeysLaw" (135 : Nat) ({ cls := "EvenCurveKeysLaw", name := "holds", desc := "(LEvenCurveKeys;IJII[J)I" } : Jvm.MethodName)) ∈ wa := wa_2 228 (by decide +kernel) rfl
theorem ww_469 : (Jvm.Cond.static ({ cls := "EvenCurveKeysLaw", name := "holds", desc := "(LEvenCurveKeys;IJII[J)I" } : Jvm.MethodName)) ∈ wa := wa_2 229 (by decide +kernel) rfl
theorem ww_470 : (Jvm.Cond.codeWith ({ cls := "EvenCurveKeysLaw", name := "holds", desc := "(LEvenCurveKeys;IJII[J)I" } : Jvm.MethodName) method_13_code (8 : Nat) (Option.some Jvm.ClassFile.FieldType.int) [((0 : Nat), (22 : Nat), (25 : Nat), (13 : Nat)), ((0 : Nat), (22 : Nat), (29 : Nat), (29 : Nat))]) ∈ wa := wa_2 230 (by decide +kernel) rfl
theorem ww_471 : (Jvm.Cond.methodLink "EvenCurveKeysLaw" (58 : Nat) ({ cls := "EvenCurveKeys", name := "holds", desc := "(IJII)Z" } : Jvm.MethodName)) ∈ wa := wa_2 231 (by decide +kernel) rfl
theorem ww_472 : (Jvm.Cond.instanceMethod ({ cls := "EvenCurveKeys", name := "holds", desc := "(IJII)Z" } : Jvm.MethodName)) ∈ wa := wa_2 232 (by decide +kernel) rfl
theorem ww_473 : (Jvm.Cond.selects "EvenCurveKeys" ({ cls := "EvenCurveKeys", name := "holds", desc := "(IJII)Z" } : Jvm.MethodName) ({ cls := "EvenCurveKeys", name := "holds", desc := "(IJII)Z" } : Jvm.MethodName)) ∈ wa := wa_2 233 (by decide +kernel) rfl
theorem ww_474 : (Jvm.Cond.code ({ cls := "EvenCurveKeys", name := "holds", desc := "(IJII)Z" } : Jvm.MethodName) prog_1_method_14_code (12 : Nat) (Option.some Jvm.ClassFile.FieldType.boolean)) ∈ wa := wa_2 234 (by decide +kernel) rfl
theorem ww_475 : (Jvm.Cond.methodLink "EvenCurveKeys" (126 : Nat) ({ cls := "EvenCurveKeys$Curve", name := "evenOf", desc := "(J)J" } : Jvm.MethodName)) ∈ wa := wa_2 235 (by decide +kernel) rfl
theorem ww_476 : (Jvm.Cond.static ({ cls := "EvenCurveKeys$Curve", name := "evenOf", desc := "(J)J" } : Jvm.MethodName)) ∈ wa := wa_2 236 (by decide +kernel) rfl
theorem ww_477 : (Jvm.Cond.code ({ cls := "EvenCurveKeys$Curve", name := "evenOf", desc := "(J)J" } : Jvm.MethodName) prog_2_method_6_code (2 : Nat) (Option.some Jvm.ClassFile.FieldType.long)) ∈ wa := wa_2 237 (by decide +kernel) rfl
theorem ww_478 : (Jvm.Cond.methodLink "EvenCurveKeys" (129 : Nat) ({ cls := "EvenCurveKeys$Field", name := "has", desc := "(J)Z" } : Jvm.MethodName)) ∈ wa := wa_2 238 (by decide +kernel) rfl
theorem ww_479 : (Jvm.Cond.methodLink "EvenCurveKeysLaw" (138 : Nat) ({ cls := "EvenCurveKeysLaw", name := "bundle", desc := "(LEvenCurveKeys;IJII[J)I" } : Jvm.MethodName)) ∈ wa := wa_2 239 (by decide +kernel) rfl
theorem ww_480 : (Jvm.Cond.static ({ cls := "EvenCurveKeysLaw", name := "bundle", desc := "(LEvenCurveKeys;IJII[J)I" } : Jvm.MethodName)) ∈ wa := wa_3 0 (by decide +kernel) rfl
theorem ww_481 : (Jvm.Cond.codeWith ({ cls := "EvenCurveKeysLaw", name := "bundle", desc := "(LEvenCurveKeys;IJII[J)I" } : Jvm.MethodName) method_14_code (8 : Nat) (Option.some Jvm.ClassFile.FieldType.int) [((0 : Nat), (15 : Nat), (18 : Nat), (13 : Nat)), ((0 : Nat), (15 : Nat), (22 : Nat), (29 : Nat)), ((0 : Nat), (15 : Nat), (26 : Nat), (44 : Nat))]) ∈ wa := wa_3 1 (by decide +kernel) rfl
theorem ww_482 : (Jvm.Cond.methodLink "EvenCurveKeysLaw" (61 : Nat) ({ cls := "EvenCurveKeys", name := "bundle", desc := "(IJII)I" } : Jvm.MethodName)) ∈ wa := wa_3 2 (by decide +kernel) rfl
theorem ww_483 : (Jvm.Cond.instanceMethod ({ cls := "EvenCurveKeys", name := "bundle", desc := "(IJII)I" } : Jvm.MethodName)) ∈ wa := wa_3 3 (by decide +kernel) rfl
theorem ww_484 : (Jvm.Cond.selects "EvenCurveKeys" ({ cls := "EvenCurveKeys", name := "bundle", desc := "(IJII)I" } : Jvm.MethodName) ({ cls := "EvenCurveKeys", name := "bundle", desc := "(IJII)I" } : Jvm.MethodName)) ∈ wa := wa_3 4 (by decide +kernel) rfl
theorem ww_485 : (Jvm.Cond.code ({ cls := "EvenCurveKeys", name := "bundle", desc := "(IJII)I" } : Jvm.MethodName) prog_1_method_15_code (8 : Nat) (Option.some Jvm.ClassFile.FieldType.int)) ∈ wa := wa_3 5 (by decide +kernel) rfl
theorem ww_486 : (Jvm.Cond.methodLink "EvenCurveKeys" (135 : Nat) ({ cls := "EvenCurveKeys$Items", name := "areFull", desc := "()Z" } : Jvm.MethodName)) ∈ wa := wa_3 6 (by decide +kernel) rfl
theorem ww_487 : (Jvm.Cond.instanceMethod ({ cls := "EvenCurveKeys$Items", name := "areFull", desc := "()Z" } : Jvm.MethodName)) ∈ wa := wa_3 7 (by decide +kernel) rfl
theorem ww_488 : (Jvm.Cond.selects "EvenCurveKeys$Items" ({ cls := "EvenCurveKeys$Items", name := "areFull", desc := "()Z" } : Jvm.MethodName) ({ cls := "EvenCurveKeys$Items", name := "areFull", desc := "()Z" } : Jvm.MethodName)) ∈ wa := wa_3 8 (by decide +kernel) rfl
theorem ww_489 : (Jvm.Cond.code ({ cls := "EvenCurveKeys$Items", name := "areFull", desc := "()Z" } : Jvm.MethodName) prog_5_method_2_code (1 : Nat) (Option.some Jvm.ClassFile.FieldType.boolean)) ∈ wa := wa_3 9 (by decide +kernel) rfl
theorem ww_490 : (Jvm.Cond.methodLink "EvenCurveKeys" (139 : Nat) ({ cls := "EvenCurveKeys$Items", name := "put", desc := "(JJII)I" } : Jvm.MethodName)) ∈ wa := wa_3 10 (by decide +kernel) rfl
theorem ww_491 : (Jvm.Cond.instanceMethod ({ cls := "EvenCurveKeys$Items", name := "put", desc := "(JJII)I" } : Jvm.MethodName)) ∈ wa := wa_3 11 (by decide +kernel) rfl
theorem ww_492 : (Jvm.Cond.selects "EvenCurveKeys$Items" ({ cls := "EvenCurveKeys$Items", name := "put", desc := "(JJII)I" } : Jvm.MethodName) ({ cls := "EvenCurveKeys$Items", name := "put", desc := "(JJII)I" } : Jvm.MethodName)) ∈ wa := wa_3 12 (by decide +kernel) rfl
theorem ww_493 : (Jvm.Cond.code ({ cls := "EvenCurveKeys$Items", name := "put", desc := "(JJII)I" } : Jvm.MethodName) prog_5_method_3_code (7 : Nat) (Option.some Jvm.ClassFile.FieldType.int)) ∈ wa := wa_3 13 (by decide +kernel) rfl
theorem ww_494 : (Jvm.Cond.methodLink "EvenCurveKeys$Items" (29 : Nat) ({ cls := "EvenCurveKeys$Curve", name := "evenOf", desc := "(J)J" } : Jvm.MethodName)) ∈ wa := wa_3 14 (by decide +kernel) rfl
theorem ww_495 : (Jvm.Cond.methodLink "EvenCurveKeysLaw" (146 : Nat) ({ cls := "EvenCurveKeysLaw", name := "agree", desc := "(LEvenCurveKeys;II[J)I" } : Jvm.MethodName)) ∈ wa := wa_3 15 (by decide +kernel) rfl
theorem ww_496 : (Jvm.Cond.static ({ cls := "EvenCurveKeysLaw", name := "agree", desc := "(LEvenCurveKeys;II[J)I" } : Jvm.MethodName)) ∈ wa := wa_3 16 (by decide +kernel) rfl
theorem ww_497 : (Jvm.Cond.codeWith ({ cls := "EvenCurveKeysLaw", name := "agree", desc := "(LEvenCurveKeys;II[J)I" } : Jvm.MethodName) method_15_code (5 : Nat) (Option.some Jvm.ClassFile.FieldType.int) [((0 : Nat), (9 : Nat), (12 : Nat), (13 : Nat)), ((0 : Nat), (9 : Nat), (16 : Nat), (42 : Nat)), ((0 : Nat), (9 : Nat), (20 : Nat), (29 : Nat))]) ∈ wa := wa_3 17 (by decide +kernel) rfl
theorem ww_498 : (Jvm.Cond.methodLink "EvenCurveKeysLaw" (65 : Nat) ({ cls := "EvenCurveKeys", name := "agree", desc := "(II)J" } : Jvm.MethodName)) ∈ wa := wa_3 18 (by decide +kernel) rfl
theorem ww_499 : (Jvm.Cond.instanceMethod ({ cls := "EvenCurveKeys", name := "agree", desc := "(II)J" } : Jvm.MethodName)) ∈ wa := wa_3 19 (by decide +kernel) rfl
theorem ww_500 : (Jvm.Cond.selects "EvenCurveKeys" ({ cls := "EvenCurveKeys", name := "agree", desc := "(II)J" } : Jvm.MethodName) ({ cls := "EvenCurveKeys", name := "agree", desc := "(II)J" } : Jvm.MethodName)) ∈ wa := wa_3 20 (by decide +kernel) rfl
theorem ww_501 : (Jvm.Cond.code ({ cls := "EvenCurveKeys", name := "agree", desc := "(II)J" } : Jvm.MethodName) prog_1_method_17_code (7 : Nat) (Option.some Jvm.ClassFile.FieldType.long)) ∈ wa := wa_3 21 (by decide +kernel) rfl
theorem ww_502 : (Jvm.Cond.methodLink "EvenCurveKeys" (149 : Nat) ({ cls := "EvenCurveKeys$Curve", name := "yOf", desc := "(J)J" } : Jvm.MethodName)) ∈ wa := wa_3 22 (by decide +kernel) rfl
theorem ww_503 : (Jvm.Cond.methodLink "EvenCurveKeysLaw" (149 : Nat) ({ cls := "EvenCurveKeysLaw", name := "written", desc := "(LEvenCurveKeys;III[J)I" } : Jvm.MethodName)) ∈ wa := wa_3 23 (by decide +kernel) rfl
theorem ww_504 : (Jvm.Cond.static ({ cls := "EvenCurveKeysLaw", name := "written", desc := "(LEvenCurveKeys;III[J)I" } : Jvm.MethodName)) ∈ wa := wa_3 24 (by decide +kernel) rfl
theorem ww_505 : (Jvm.Cond.codeWith ({ cls := "EvenCurveKeysLaw", name := "written", desc := "(LEvenCurveKeys;III[J)I" } : Jvm.MethodName) method_16_code (6 : Nat) (Option.some Jvm.ClassFile.FieldType.int) [((0 : Nat), (12 : Nat), (15 : Nat), (15 : Nat))]) ∈ wa := wa_3 25 (by decide +kernel) rfl
theorem ww_506 : (Jvm.Cond.methodLink "EvenCurveKeysLaw" (68 : Nat) ({ cls := "EvenCurveKeys", name := "written", desc := "(III)I" } : Jvm.MethodName)) ∈ wa := wa_3 26 (by decide +kernel) rfl
theorem ww_507 : (Jvm.Cond.instanceMethod ({ cls := "EvenCurveKeys", name := "written", desc := "(III)I" } : Jvm.MethodName)) ∈ wa := wa_3 27 (by decide +kernel) rfl
theorem ww_508 : (Jvm.Cond.selects "EvenCurveKeys" ({ cls := "EvenCurveKeys", name := "written", desc := "(III)I" } : Jvm.MethodName) ({ cls := "EvenCurveKeys", name := "written", desc := "(III)I" } : Jvm.MethodName)) ∈ wa := wa_3 28 (by decide +kernel) rfl
theorem ww_509 : (Jvm.Cond.code ({ cls := "EvenCurveKeys", name := "written", desc := "(III)I" } : Jvm.MethodName) prog_1_method_18_code (5 : Nat) (Option.some Jvm.ClassFile.FieldType.int)) ∈ wa := wa_3 29 (by decide +kernel) rfl
theorem ww_510 : (Jvm.Cond.methodLink "EvenCurveKeys" (152 : Nat) ({ cls := "EvenCurveKeys$Form", name := "length", desc := "(II)I" } : Jvm.MethodName)) ∈ wa := wa_3 30 (by decide +kernel) rfl
theorem ww_511 : (Jvm.Cond.methodLink "EvenCurveKeys" (158 : Nat) ({ cls := "EvenCurveKeys$Form", name := "byteAt", desc := "(III)I" } : Jvm.MethodName)) ∈ wa := wa_3 31 (by decide +kernel) rfl
theorem ww_512 : (Jvm.Cond.methodLink "EvenCurveKeysLaw" (152 : Nat) ({ cls := "EvenCurveKeysLaw", name := "type", desc := "(LEvenCurveKeys;I[J)I" } : Jvm.MethodName)) ∈ wa := wa_3 32 (by decide +kernel) rfl
theorem ww_513 : (Jvm.Cond.static ({ cls := "EvenCurveKeysLaw", name := "type", desc := "(LEvenCurveKeys;I[J)I" } : Jvm.MethodName)) ∈ wa := wa_3 33 (by decide +kernel) rfl
theorem ww_514 : (Jvm.Cond.codeWith ({ cls := "EvenCurveKeysLaw", name := "type", desc := "(LEvenCurveKeys;I[J)I" } : Jvm.MethodName) method_17_code (4 : Nat) (Option.some Jvm.ClassFile.FieldType.int) [((0 : Nat), (9 : Nat), (12 : Nat), (15 : Nat)), ((0 : Nat), (9 : Nat), (15 : Nat), (44 : Nat))]) ∈ wa := wa_3 34 (by decide +kernel) rfl
theorem ww_515 : (Jvm.Cond.methodLink "EvenCurveKeysLaw" (72 : Nat) ({ cls := "EvenCurveKeys", name := "type", desc := "(I)I" } : Jvm.MethodName)) ∈ wa := wa_3 35 (by decide +kernel) rfl
theorem ww_516 : (Jvm.Cond.instanceMethod ({ cls := "EvenCurveKeys", name := "type", desc := "(I)I" } : Jvm.MethodName)) ∈ wa := wa_3 36 (by decide +kernel) rfl
theorem ww_517 : (Jvm.Cond.selects "EvenCurveKeys" ({ cls := "EvenCurveKeys", name := "type", desc := "(I)I" } : Jvm.MethodName) ({ cls := "EvenCurveKeys", name := "type", desc := "(I)I" } : Jvm.MethodName)) ∈ wa := wa_3 37 (by decide +kernel) rfl
theorem ww_518 : (Jvm.Cond.code ({ cls := "EvenCurveKeys", name := "type", desc := "(I)I" } : Jvm.MethodName) prog_1_method_19_code (2 : Nat) (Option.some Jvm.ClassFile.FieldType.int)) ∈ wa := wa_3 38 (by decide +kernel) rfl
theorem ww_519 : (Jvm.Cond.methodLink "EvenCurveKeys" (162 : Nat) ({ cls := "EvenCurveKeys$Typed", name := "isFull", desc := "()Z" } : Jvm.MethodName)) ∈ wa := wa_3 39 (by decide +kernel) rfl
theorem ww_520 : (Jvm.Cond.instanceMethod ({ cls := "EvenCurveKeys$Typed", name := "isFull", desc := "()Z" } : Jvm.MethodName)) ∈ wa := wa_3 40 (by decide +kernel) rfl
theorem ww_521 : (Jvm.Cond.selects "EvenCurveKeys$Typed" ({ cls := "EvenCurveKeys$Typed", name := "isFull", desc := "()Z" } : Jvm.MethodName) ({ cls := "EvenCurveKeys$Typed", name := "isFull", desc := "()Z" } : Jvm.MethodName)) ∈ wa := wa_3 41 (by decide +kernel) rfl
theorem ww_522 : (Jvm.Cond.code ({ cls := "EvenCurveKeys$Typed", name := "isFull", desc := "()Z" } : Jvm.MethodName) prog_7_method_2_code (1 : Nat) (Option.some Jvm.ClassFile.FieldType.boolean)) ∈ wa := wa_3 42 (by decide +kernel) rfl
theorem ww_523 : (Jvm.Cond.methodLink "EvenCurveKeys" (165 : Nat) ({ cls := "EvenCurveKeys$Typed", name := "put", desc := "(I)I" } : Jvm.MethodName)) ∈ wa := wa_3 43 (by decide +kernel) rfl
theorem ww_524 : (Jvm.Cond.instanceMethod ({ cls := "EvenCurveKeys$Typed", name := "put", desc := "(I)I" } : Jvm.MethodName)) ∈ wa := wa_3 44 (by decide +kernel) rfl
theorem ww_525 : (Jvm.Cond.selects "EvenCurveKeys$Typed" ({ cls := "EvenCurveKeys$Typed", name := "put", desc := "(I)I" } : Jvm.MethodName) ({ cls := "EvenCurveKeys$Typed", name := "put", desc := "(I)I" } : Jvm.MethodName)) ∈ wa := wa_3 45 (by decide +kernel) rfl
theorem ww_526 : (Jvm.Cond.code ({ cls := "EvenCurveKeys$Typed", name := "put", desc := "(I)I" } : Jvm.MethodName) prog_7_method_3_code (2 : Nat) (Option.some Jvm.ClassFile.FieldType.int)) ∈ wa := wa_3 46 (by decide +kernel) rfl
theorem ww_527 : (Jvm.Cond.classLink "EvenCurveKeysLaw" (77 : Nat) "EvenCurveKeysModel") ∈ wa := wa_3 47 (by decide +kernel) rfl
theorem ww_528 : (Jvm.Cond.instantiable "EvenCurveKeysModel" (13 : Nat)) ∈ wa := wa_3 48 (by decide +kernel) rfl
theorem ww_529 : (Jvm.Cond.methodLink "EvenCurveKeysLaw" (79 : Nat) ({ cls := "EvenCurveKeysModel", name := "<init>", desc := "()V" } : Jvm.MethodName)) ∈ wa := wa_3 49 (by decide +kernel) rfl
theorem ww_530 : (Jvm.Cond.instanceMethod ({ cls := "EvenCurveKeysModel", name := "<init>", desc := "()V" } : Jvm.MethodName)) ∈ wa := wa_3 50 (by decide +kernel) rfl
theorem ww_531 : (Jvm.Cond.code ({ cls := "EvenCurveKeysModel", name := "<init>", desc := "()V" } : Jvm.MethodName) prog_9_method_1_code (2 : Nat) (Option.none : Option Jvm.ClassFile.FieldType)) ∈ wa := wa_3 51 (by decide +kernel) rfl
theorem ww_532 : (Jvm.Cond.methodLink "EvenCurveKeysModel" (1 : Nat) ({ cls := "java/lang/Object", name := "<init>", desc := "()V" } : Jvm.MethodName)) ∈ wa := wa_3 52 (by decide +kernel) rfl
theorem ww_533 : (Jvm.Cond.constantLong "EvenCurveKeysModel" (35 : Nat) (-1 : Int64)) ∈ wa := wa_3 53 (by decide +kernel) rfl
theorem ww_534 : (Jvm.Cond.fieldLink "EvenCurveKeysModel" (37 : Nat) "EvenCurveKeysModel" "thrown" "I") ∈ wa := wa_3 54 (by decide +kernel) rfl
theorem ww_535 : (Jvm.Cond.fieldLink "EvenCurveKeysModel" (7 : Nat) "EvenCurveKeysModel" "points" "[J") ∈ wa := wa_3 55 (by decide +kernel) rfl
theorem ww_536 : (Jvm.Cond.fieldLink "EvenCurveKeysModel" (13 : Nat) "EvenCurveKeysModel" "secrets" "[J") ∈ wa := wa_3 56 (by decide +kernel) rfl
theorem ww_537 : (Jvm.Cond.fieldLink "EvenCurveKeysModel" (135 : Nat) "EvenCurveKeysModel" "lastMark" "I") ∈ wa := wa_3 57 (by decide +kernel) rfl
theorem ww_538 : (Jvm.Cond.fieldLink "EvenCurveKeysModel" (148 : Nat) "EvenCurveKeysModel" "items" "I") ∈ wa := wa_3 58 (by decide +kernel) rfl
theorem ww_539 : (Jvm.Cond.fieldLink "EvenCurveKeysModel" (16 : Nat) "EvenCurveKeysModel" "itemX" "[J") ∈ wa := wa_3 59 (by decide +kernel) rfl
theorem ww_540 : (Jvm.Cond.fieldLink "EvenCurveKeysModel" (19 : Nat) "EvenCurveKeysModel" "itemMessage" "[J") ∈ wa := wa_3 60 (by decide +kernel) rfl
theorem ww_541 : (Jvm.Cond.fieldLink "EvenCurveKeysModel" (22 : Nat) "EvenCurveKeysModel" "itemRx" "[I") ∈ wa := wa_3 61 (by decide +kernel) rfl
theorem ww_542 : (Jvm.Cond.fieldLink "EvenCurveKeysModel" (26 : Nat) "EvenCurveKeysModel" "itemS" "[I") ∈ wa := wa_3 62 (by decide +kernel) rfl
theorem ww_543 : (Jvm.Cond.fieldLink "EvenCurveKeysModel" (172 : Nat) "EvenCurveKeysModel" "typed" "I") ∈ wa := wa_3 63 (by decide +kernel) rfl
theorem ww_544 : (Jvm.Cond.fieldLink "EvenCurveKeysModel" (29 : Nat) "EvenCurveKeysModel" "bytes" "[I") ∈ wa := wa_3 64 (by decide +kernel) rfl
theorem ww_545 : (Jvm.Cond.fieldLink "EvenCurveKeysModel" (155 : Nat) "EvenCurveKeysModel" "formSize" "I") ∈ wa := wa_3 65 (by decide +kernel) rfl
theorem ww_546 : (Jvm.Cond.fieldLink "EvenCurveKeysModel" (32 : Nat) "EvenCurveKeysModel" "form" "[I") ∈ wa := wa_3 66 (by decide +kernel) rfl
theorem ww_574 : (Jvm.Cond.methodLink "EvenCurveKeysLaw" (86 : Nat) ({ cls := "EvenCurveKeysModel", name := "thrown", desc := "()I" } : Jvm.MethodName)) ∈ wa := wa_3 94 (by decide +kernel) rfl
theorem ww_575 : (Jvm.Cond.instanceMethod ({ cls := "EvenCurveKeysModel", name := "thrown", desc := "()I" } : Jvm.MethodName)) ∈ wa := wa_3 95 (by decide +kernel) rfl
theorem ww_576 : (Jvm.Cond.selects "EvenCurveKeysModel" ({ cls := "EvenCurveKeysModel", name := "thrown", desc := "()I" } : Jvm.MethodName) ({ cls := "EvenCurveKeysModel", name := "thrown", desc := "()I" } : Jvm.MethodName)) ∈ wa := wa_3 96 (by decide +kernel) rfl
theorem ww_577 : (Jvm.Cond.code ({ cls := "EvenCurveKeysModel", name := "thrown", desc := "()I" } : Jvm.MethodName) prog_9_method_2_code (1 : Nat) (Option.some Jvm.ClassFile.FieldType.int)) ∈ wa := wa_3 97 (by decide +kernel) rfl
theorem ww_578 : (Jvm.Cond.methodLink "EvenCurveKeysLaw" (85 : Nat) ({ cls := "EvenCurveKeysModel", name := "secret", desc := "(II)J" } : Jvm.MethodName)) ∈ wa := wa_3 98 (by decide +kernel) rfl
theorem ww_579 : (Jvm.Cond.instanceMethod ({ cls := "EvenCurveKeysModel", name := "secret", desc := "(II)J" } : Jvm.MethodName)) ∈ wa := wa_3 99 (by decide +kernel) rfl
theorem ww_580 : (Jvm.Cond.selects "EvenCurveKeysModel" ({ cls := "EvenCurveKeysModel", name := "secret", desc := "(II)J" } : Jvm.MethodName) ({ cls := "EvenCurveKeysModel", name := "secret", desc := "(II)J" } : Jvm.MethodName)) ∈ wa := wa_3 100 (by decide +kernel) rfl
theorem ww_581 : (Jvm.Cond.code ({ cls := "EvenCurveKeysModel", name := "secret", desc := "(II)J" } : Jvm.MethodName) prog_9_method_20_code (3 : Nat) (Option.some Jvm.ClassFile.FieldType.long)) ∈ wa := wa_3 101 (by decide +kernel) rfl
theorem ww_582 : (Jvm.Cond.methodLink "EvenCurveKeysModel" (95 : Nat) ({ cls := "EvenCurveKeysModel", name := "isSlot", desc := "(I)Z" } : Jvm.MethodName)) ∈ wa := wa_3 102 (by decide +kernel) rfl
theorem ww_583 : (Jvm.Cond.static ({ cls := "EvenCurveKeysModel", name := "isSlot", desc := "(I)Z" } : Jvm.MethodName)) ∈ wa := wa_3 103 (by decide +kernel) rfl
theorem ww_584 : (Jvm.Cond.code ({ cls := "EvenCurveKeysModel", name := "isSlot", desc := "(I)Z" } : Jvm.MethodName) prog_9_method_17_code (1 : Nat) (Option.some Jvm.ClassFile.FieldType.boolean)) ∈ wa := wa_3 104 (by decide +kernel) rfl
theorem ww_585 : (Jvm.Cond.constantLong "EvenCurveKeysModel" (93 : Nat) (1073729077 : Int64)) ∈ wa := wa_3 105 (by decide +kernel) rfl
theorem ww_586 : (Jvm.Cond.methodLink "EvenCurveKeysModel" (99 : Nat) ({ cls := "EvenCurveKeysModel", name := "g", desc := "()J" } : Jvm.MethodName)) ∈ wa := wa_3 106 (by decide +kernel) rfl
theorem ww_587 : (Jvm.Cond.static ({ cls := "EvenCurveKeysModel", name := "g", desc := "()J" } : Jvm.MethodName)) ∈ wa := wa_3 107 (by decide +kernel) rfl
theorem ww_588 : (Jvm.Cond.code ({ cls := "EvenCurveKeysModel", name := "g", desc := "()J" } : Jvm.MethodName) prog_9_method_12_code (0 : Nat) (Option.some Jvm.ClassFile.FieldType.long)) ∈ wa := wa_3 108 (by decide +kernel) rfl
theorem ww_589 : (Jvm.Cond.constantLong "EvenCurveKeysModel" (81 : Nat) (2263541708 : Int64)) ∈ wa := wa_3 109 (by decide +kernel) rfl
theorem ww_590 : (Jvm.Cond.methodLink "EvenCurveKeysModel" (103 : Nat) ({ cls := "EvenCurveKeysModel", name := "times", desc := "(JJ)J" } : Jvm.MethodName)) ∈ wa := wa_3 110 (by decide +kernel) rfl
theorem ww_591 : (Jvm.Cond.static ({ cls := "EvenCurveKeysModel", name := "times", desc := "(JJ)J" } : Jvm.MethodName)) ∈ wa := wa_3 111 (by decide +kernel) rfl
theorem ww_592 : (Jvm.Cond.code ({ cls := "EvenCurveKeysModel", name := "times", desc := "(JJ)J" } : Jvm.MethodName) prog_9_method_11_code (10 : Nat) (Option.some Jvm.ClassFile.FieldType.long)) ∈ wa := wa_3 112 (by decide +kernel) rfl
theorem ww_593 : (Jvm.Cond.constantLong "EvenCurveKeysModel" (45 : Nat) (2 : Int64)) ∈ wa := wa_3 113 (by decide +kernel) rfl
theorem ww_594 : (Jvm.Cond.methodLink "EvenCurveKeysModel" (78 : Nat) ({ cls := "EvenCurveKeysModel", name := "sum", desc := "(JJ)J" } : Jvm.MethodName)) ∈ wa := wa_3 114 (by decide +kernel) rfl
theorem ww_595 : (Jvm.Cond.static ({ cls := "EvenCurveKeysModel", name := "sum", desc := "(JJ)J" } : Jvm.MethodName)) ∈ wa := wa_3 115 (by decide +kernel) rfl
theorem ww_596 : (Jvm.Cond.code ({ cls := "EvenCurveKeysModel", name := "sum", desc := "(JJ)J" } : Jvm.MethodName) prog_9_method_10_code (18 : Nat) (Option.some Jvm.ClassFile.FieldType.long)) ∈ wa := wa_3 116 (by decide +kernel) rfl
theorem ww_597 : (Jvm.Cond.methodLink "EvenCurveKeysModel" (64 : Nat) ({ cls := "EvenCurveKeysModel", name := "xOf", desc := "(J)J" } : Jvm.MethodName)) ∈ wa := wa_3 117 (by decide +kernel) rfl
theorem ww_598 : (Jvm.Cond.static ({ cls := "EvenCurveKeysModel", name := "xOf", desc := "(J)J" } : Jvm.MethodName)) ∈ wa := wa_3 118 (by decide +kernel) rfl
theorem ww_599 : (Jvm.Cond.code ({ cls := "EvenCurveKeysModel", name := "xOf", desc := "(J)J" } : Jvm.MethodName) prog_9_method_8_code (2 : Nat) (Option.some Jvm.ClassFile.FieldType.long)) ∈ wa := wa_3 119 (by decide +kernel) rfl
theorem ww_600 : (Jvm.Cond.constantLong "EvenCurveKeysModel" (62 : Nat) (2147483648 : Int64)) ∈ wa := wa_3 120 (by decide +kernel) rfl
theorem ww_601 : (Jvm.Cond.methodLink "EvenCurveKeysModel" (68 : Nat) ({ cls := "EvenCurveKeysModel", name := "yOf", desc := "(J)J" } : Jvm.MethodName)) ∈ wa := wa_3 121 (by decide +kernel) rfl
theorem ww_602 : (Jvm.Cond.static ({ cls := "EvenCurveKeysModel", name := "yOf", desc := "(J)J" } : Jvm.MethodName)) ∈ wa := wa_3 122 (by decide +kernel) rfl
theorem ww_603 : (Jvm.Cond.code ({ cls := "EvenCurveKeysModel", name := "yOf", desc := "(J)J" } : Jvm.MethodName) prog_9_method_9_code (2 : Nat) (Option.some Jvm.ClassFile.FieldType.long)) ∈ wa := wa_3 123 (by decide +kernel) rfl
theorem ww_604 : (Jvm.Cond.constantLong "EvenCurveKeysModel" (71 : Nat) (3 : Int64)) ∈ wa := wa_3 124 (by decide +kernel) rfl
theorem ww_605 : (Jvm.Cond.constantLong "EvenCurveKeysModel" (73 : Nat) (1073735023 : Int64)) ∈ wa := wa_3 125 (by decide +kernel) rfl
theorem ww_606 : (Jvm.Cond.methodLink "EvenCurveKeysModel" (75 : Nat) ({ cls := "EvenCurveKeysModel", name := "quotient", desc := "(JJJ)J" } : Jvm.MethodName)) ∈ wa := wa_3 126 (by decide +kernel) rfl
theorem ww_607 : (Jvm.Cond.static ({ cls := "EvenCurveKeysModel", name := "quotient", desc := "(JJJ)J" } : Jvm.MethodName)) ∈ wa := wa_3 127 (by decide +kernel) rfl
theorem ww_608 : (Jvm.Cond.code ({ cls := "EvenCurveKeysModel", name := "quotient", desc := "(JJJ)J" } : Jvm.MethodName) prog_9_method_5_code (6 : Nat) (Option.some Jvm.ClassFile.FieldType.long)) ∈ wa := wa_3 128 (by decide +kernel) rfl
theorem ww_609 : (Jvm.Cond.methodLink "EvenCurveKeysModel" (41 : Nat) ({ cls := "EvenCurveKeysModel", name := "mod", desc := "(JJ)J" } : Jvm.MethodName)) ∈ wa := wa_3 129 (by decide +kernel) rfl
theorem ww_610 : (Jvm.Cond.static ({ cls := "EvenCurveKeysModel", name := "mod", desc := "(JJ)J" } : Jvm.MethodName)) ∈ wa := wa_3 130 (by decide +kernel) rfl
theorem ww_611 : (Jvm.Cond.code ({ cls := "EvenCurveKeysModel", name := "mod", desc := "(JJ)J" } : Jvm.MethodName) prog_9_method_3_code (6 : Nat) (Option.some Jvm.ClassFile.FieldType.long)) ∈ wa := wa_3 131 (by decide +kernel) rfl
theorem ww_612 : (Jvm.Cond.methodLink "EvenCurveKeysModel" (47 : Nat) ({ cls := "EvenCurveKeysModel", name := "power", desc := "(JJJ)J" } : Jvm.MethodName)) ∈ wa := wa_3 132 (by decide +kernel) rfl
theorem ww_613 : (Jvm.Cond.static ({ cls := "EvenCurveKeysModel", name := "power", desc := "(JJJ)J" } : Jvm.MethodName)) ∈ wa := wa_3 133 (by decide +kernel) rfl
theorem ww_614 : (Jvm.Cond.code ({ cls := "EvenCurveKeysModel", name := "power", desc := "(JJJ)J" } : Jvm.MethodName) prog_9_method_4_code (12 : Nat) (Option.some Jvm.ClassFile.FieldType.long)) ∈ wa := wa_3 134 (by decide +kernel) rfl
theorem ww_615 : (Jvm.Cond.methodLink "EvenCurveKeysModel" (106 : Nat) ({ cls := "EvenCurveKeysModel", name := "codeOf", desc := "(J)J" } : Jvm.MethodName)) ∈ wa := wa_3 135 (by decide +kernel) rfl
theorem ww_616 : (Jvm.Cond.static ({ cls := "EvenCurveKeysModel", name := "codeOf", desc := "(J)J" } : Jvm.MethodName)) ∈ wa := wa_3 136 (by decide +kernel) rfl
theorem ww_617 : (Jvm.Cond.code ({ cls := "EvenCurveKeysModel", name := "codeOf", desc := "(J)J" } : Jvm.MethodName) prog_9_method_15_code (2 : Nat) (Option.some Jvm.ClassFile.FieldType.long)) ∈ wa := wa_3 137 (by decide +kernel) rfl
theorem ww_618 : (Jvm.Cond.constantLong "EvenCurveKeysModel" (87 : Nat) (4294967296 : Int64)) ∈ wa := wa_3 138 (by decide +kernel) rfl
theorem ww_619 : (Jvm.Cond.methodLink "EvenCurveKeysLaw" (95 : Nat) ({ cls := "EvenCurveKeysModel", name := "open", desc := "(IJ)V" } : Jvm.MethodName)) ∈ wa := wa_3 139 (by decide +kernel) rfl
theorem ww_620 : (Jvm.Cond.instanceMethod ({ cls := "EvenCurveKeysModel", name := "open", desc := "(IJ)V" } : Jvm.MethodName)) ∈ wa := wa_3 140 (by decide +kernel) rfl
theorem ww_621 : (Jvm.Cond.selects "EvenCurveKeysModel" ({ cls := "EvenCurveKeysModel", name := "open", desc := "(IJ)V" } : Jvm.MethodName) ({ cls := "EvenCurveKeysModel", name := "open", desc := "(IJ)V" } : Jvm.MethodName)) ∈ wa := wa_3 141 (by decide +kernel) rfl
theorem ww_622 : (Jvm.Cond.code ({ cls := "EvenCurveKeysModel", name := "open", desc := "(IJ)V" } : Jvm.MethodName) prog_9_method_22_code (4 : Nat) (Option.none : Option Jvm.ClassFile.FieldType)) ∈ wa := wa_3 142 (by decide +kernel) rfl
theorem ww_623 : (Jvm.Cond.methodLink "EvenCurveKeysModel" (109 : Nat) ({ cls := "EvenCurveKeysModel", name := "pointOf", desc := "(J)J" } : Jvm.MethodName)) ∈ wa := wa_3 143 (by decide +kernel) rfl
theorem ww_624 : (Jvm.Cond.static ({ cls := "EvenCurveKeysModel", name := "pointOf", desc := "(J)J" } : Jvm.MethodName)) ∈ wa := wa_3 144 (by decide +kernel) rfl
theorem ww_625 : (Jvm.Cond.code ({ cls := "EvenCurveKeysModel", name := "pointOf", desc := "(J)J" } : Jvm.MethodName) prog_9_method_16_code (4 : Nat) (Option.some Jvm.ClassFile.FieldType.long)) ∈ wa := wa_3 145 (by decide +kernel) rfl
theorem ww_626 : (Jvm.Cond.methodLink "EvenCurveKeysModel" (89 : Nat) ({ cls := "EvenCurveKeysModel", name := "lift", desc := "(JZ)J" } : Jvm.MethodName)) ∈ wa := wa_3 146 (by decide +kernel) rfl
theorem ww_627 : (Jvm.Cond.static ({ cls := "EvenCurveKeysModel", name := "lift", desc := "(JZ)J" } : Jvm.MethodName)) ∈ wa := wa_3 147 (by decide +kernel) rfl
theorem ww_628 : (Jvm.Cond.code ({ cls := "EvenCurveKeysModel", name := "lift", desc := "(JZ)J" } : Jvm.MethodName) prog_9_method_14_code (7 : Nat) (Option.some Jvm.ClassFile.FieldType.long)) ∈ wa := wa_3 148 (by decide +kernel) rfl
theorem ww_629 : (Jvm.Cond.constantLong "EvenCurveKeysModel" (83 : Nat) (7 : Int64)) ∈ wa := wa_3 149 (by decide +kernel) rfl
theorem ww_630 : (Jvm.Cond.constantLong "EvenCurveKeysModel" (85 : Nat) (268433756 : Int64)) ∈ wa := wa_3 150 (by decide +kernel) rfl
theorem ww_631 : (Jvm.Cond.methodLink "EvenCurveKeysModel" (112 : Nat) ({ cls := "EvenCurveKeysModel", name := "lay", desc := "(IJ)V" } : Jvm.MethodName)) ∈ wa := wa_3 151 (by decide +kernel) rfl
theorem ww_633 : (Jvm.Cond.instanceMethod ({ cls := "EvenCurveKeysModel", name := "lay", desc := "(IJ)V" } : Jvm.MethodName)) ∈ wa := wa_3 153 (by decide +kernel) rfl
theorem ww_634 : (Jvm.Cond.code ({ cls := "EvenCurveKeysModel", name := "lay", desc := "(IJ)V" } : Jvm.MethodName) prog_9_method_21_code (4 : Nat) (Option.none : Option Jvm.ClassFile.FieldType)) ∈ wa := wa_3 154 (by decide +kernel) rfl
theorem ww_635 : (Jvm.Cond.methodLink "EvenCurveKeysLaw" (99 : Nat) ({ cls := "EvenCurveKeysModel", name := "code", desc := "(I)J" } : Jvm.MethodName)) ∈ wa := wa_3 155 (by decide +kernel) rfl
theorem ww_636 : (Jvm.Cond.instanceMethod ({ cls := "EvenCurveKeysModel", name := "code", desc := "(I)J" } : Jvm.MethodName)) ∈ wa := wa_3 156 (by decide +kernel) rfl
theorem ww_637 : (Jvm.Cond.selects "EvenCurveKeysModel" ({ cls := "EvenCurveKeysModel", name := "code", desc := "(I)J" } : Jvm.MethodName) ({ cls := "EvenCurveKeysModel", name := "code", desc := "(I)J" } : Jvm.MethodName)) ∈ wa := wa_3 157 (by decide +kernel) rfl
theorem ww_638 : (Jvm.Cond.code ({ cls := "EvenCurveKeysModel", name := "code", desc := "(I)J" } : Jvm.MethodName) prog_9_method_23_code (2 : Nat) (Option.some Jvm.ClassFile.FieldType.long)) ∈ wa := wa_3 158 (by decide +kernel) rfl
theorem ww_639 : (Jvm.Cond.methodLink "EvenCurveKeysLaw" (103 : Nat) ({ cls := "EvenCurveKeysModel", name := "even", desc := "(I)J" } : Jvm.MethodName)) ∈ wa := wa_3 159 (by decide +kernel) rfl
theorem ww_640 : (Jvm.Cond.instanceMethod ({ cls := "EvenCurveKeysModel", name := "even", desc := "(I)J" } : Jvm.MethodName)) ∈ wa := wa_3 160 (by decide +kernel) rfl
theorem ww_641 : (Jvm.Cond.selects "EvenCurveKeysModel" ({ cls := "EvenCurveKeysModel", name := "even", desc := "(I)J" } : Jvm.MethodName) ({ cls := "EvenCurveKeysModel", name := "even", desc := "(I)J" } : Jvm.MethodName)) ∈ wa := wa_3 161 (by decide +kernel) rfl
theorem ww_642 : (Jvm.Cond.code ({ cls := "EvenCurveKeysModel", name := "even", desc := "(I)J" } : Jvm.MethodName) prog_9_method_24_code (2 : Nat) (Option.some Jvm.ClassFile.FieldType.long)) ∈ wa := wa_3 162 (by decide +kernel) rfl
theorem ww_643 : (Jvm.Cond.methodLink "EvenCurveKeysLaw" (107 : Nat) ({ cls := "EvenCurveKeysModel", name := "tweak", desc := "(IIZ)J" } : Jvm.MethodName)) ∈ wa := wa_3 163 (by decide +kernel) rfl
theorem ww_644 : (Jvm.Cond.instanceMethod ({ cls := "EvenCurveKeysModel", name := "tweak", desc := "(IIZ)J" } : Jvm.MethodName)) ∈ wa := wa_3 164 (by decide +kernel) rfl
theorem ww_645 : (Jvm.Cond.selects "EvenCurveKeysModel" ({ cls := "EvenCurveKeysModel", name := "tweak", desc := "(IIZ)J" } : Jvm.MethodName) ({ cls := "EvenCurveKeysModel", name := "tweak", desc := "(IIZ)J" } : Jvm.MethodName)) ∈ wa := wa_3 165 (by decide +kernel) rfl
theorem ww_646 : (Jvm.Cond.code ({ cls := "EvenCurveKeysModel", name := "tweak", desc := "(IIZ)J" } : Jvm.MethodName) prog_9_method_25_code (6 : Nat) (Option.some Jvm.ClassFile.FieldType.long)) ∈ wa := wa_3 166 (by decide +kernel) rfl
theorem ww_647 : (Jvm.Cond.methodLink "EvenCurveKeysModel" (116 : Nat) ({ cls := "EvenCurveKeysModel", name := "full", desc := "(I)Z" } : Jvm.MethodName)) ∈ wa := wa_3 167 (by decide +kernel) rfl
theorem ww_649 : (Jvm.Cond.instanceMethod ({ cls := "EvenCurveKeysModel", name := "full", desc := "(I)Z" } : Jvm.MethodName)) ∈ wa := wa_3 169 (by decide +kernel) rfl
theorem ww_650 : (Jvm.Cond.code ({ cls := "EvenCurveKeysModel", name := "full", desc := "(I)Z" } : Jvm.MethodName) prog_9_method_18_code (2 : Nat) (Option.some Jvm.ClassFile.FieldType.boolean)) ∈ wa := wa_3 170 (by decide +kernel) rfl
theorem ww_651 : (Jvm.Cond.methodLink "EvenCurveKeysModel" (119 : Nat) ({ cls := "EvenCurveKeysModel", name := "isScalar", desc := "(I)Z" } : Jvm.MethodName)) ∈ wa := wa_3 171 (by decide +kernel) rfl
theorem ww_652 : (Jvm.Cond.static ({ cls := "EvenCurveKeysModel", name := "isScalar", desc := "(I)Z" } : Jvm.MethodName)) ∈ wa := wa_3 172 (by decide +kernel) rfl
theorem ww_653 : (Jvm.Cond.code ({ cls := "EvenCurveKeysModel", name := "isScalar", desc := "(I)Z" } : Jvm.MethodName) prog_9_method_19_code (1 : Nat) (Option.some Jvm.ClassFile.FieldType.boolean)) ∈ wa := wa_3 173 (by decide +kernel) rfl
theorem ww_654 : (Jvm.Cond.methodLink "EvenCurveKeysLaw" (111 : Nat) ({ cls := "EvenCurveKeysModel", name := "combine", desc := "(III)J" } : Jvm.MethodName)) ∈ wa := wa_3 174 (by decide +kernel) rfl
theorem ww_655 : (Jvm.Cond.instanceMethod ({ cls := "EvenCurveKeysModel", name := "combine", desc := "(III)J" } : Jvm.MethodName)) ∈ wa := wa_3 175 (by decide +kernel) rfl
theorem ww_656 : (Jvm.Cond.selects "EvenCurveKeysModel" ({ cls := "EvenCurveKeysModel", name := "combine", desc := "(III)J" } : Jvm.MethodName) ({ cls := "EvenCurveKeysModel", name := "combine", desc := "(III)J" } : Jvm.MethodName)) ∈ wa := wa_3 176 (by decide +kernel) rfl
theorem ww_657 : (Jvm.Cond.code ({ cls := "EvenCurveKeysModel", name := "combine", desc := "(III)J" } : Jvm.MethodName) prog_9_method_26_code (4 : Nat) (Option.some Jvm.ClassFile.FieldType.long)) ∈ wa := wa_3 177 (by decide +kernel) rfl
theorem ww_658 : (Jvm.Cond.methodLink "EvenCurveKeysLaw" (114 : Nat) ({ cls := "EvenCurveKeysModel", name := "linear", desc := "(III)J" } : Jvm.MethodName)) ∈ wa := wa_3 178 (by decide +kernel) rfl
theorem ww_659 : (Jvm.Cond.instanceMethod ({ cls := "EvenCurveKeysModel", name := "linear", desc := "(III)J" } : Jvm.MethodName)) ∈ wa := wa_3 179 (by decide +kernel) rfl
theorem ww_660 : (Jvm.Cond.selects "EvenCurveKeysModel" ({ cls := "EvenCurveKeysModel", name := "linear", desc := "(III)J" } : Jvm.MethodName) ({ cls := "EvenCurveKeysModel", name := "linear", desc := "(III)J" } : Jvm.MethodName)) ∈ wa := wa_3 180 (by decide +kernel) rfl
theorem ww_661 : (Jvm.Cond.code ({ cls := "EvenCurveKeysModel", name := "linear", desc := "(III)J" } : Jvm.MethodName) prog_9_method_27_code (4 : Nat) (Option.some Jvm.ClassFile.FieldType.long)) ∈ wa := wa_3 181 (by decide +kernel) rfl
theorem ww_662 : (Jvm.Cond.methodLink "EvenCurveKeysLaw" (118 : Nat) ({ cls := "EvenCurveKeysModel", name := "sign", desc := "(IJ)J" } : Jvm.MethodName)) ∈ wa := wa_3 182 (by decide +kernel) rfl
theorem ww_663 : (Jvm.Cond.instanceMethod ({ cls := "EvenCurveKeysModel", name := "sign", desc := "(IJ)J" } : Jvm.MethodName)) ∈ wa := wa_3 183 (by decide +kernel) rfl
theorem ww_664 : (Jvm.Cond.selects "EvenCurveKeysModel" ({ cls := "EvenCurveKeysModel", name := "sign", desc := "(IJ)J" } : Jvm.MethodName) ({ cls := "EvenCurveKeysModel", name := "sign", desc := "(IJ)J" } : Jvm.MethodName)) ∈ wa := wa_3 184 (by decide +kernel) rfl
theorem ww_665 : (Jvm.Cond.code ({ cls := "EvenCurveKeysModel", name := "sign", desc := "(IJ)J" } : Jvm.MethodName) prog_9_method_29_code (18 : Nat) (Option.some Jvm.ClassFile.FieldType.long)) ∈ wa := wa_3 185 (by decide +kernel) rfl
theorem ww_666 : (Jvm.Cond.methodLink "EvenCurveKeysModel" (122 : Nat) ({ cls := "EvenCurveKeysModel", name := "noSecret", desc := "(I)I" } : Jvm.MethodName)) ∈ wa := wa_3 186 (by decide +kernel) rfl
theorem ww_668 : (Jvm.Cond.instanceMethod ({ cls := "EvenCurveKeysModel", name := "noSecret", desc := "(I)I" } : Jvm.MethodName)) ∈ wa := wa_3 188 (by decide +kernel) rfl
theorem ww_669 : (Jvm.Cond.code ({ cls := "EvenCurveKeysModel", name := "noSecret", desc := "(I)I" } : Jvm.MethodName) prog_9_method_28_code (2 : Nat) (Option.some Jvm.ClassFile.FieldType.int)) ∈ wa := wa_3 189 (by decide +kernel) rfl
theorem ww_670 : (Jvm.Cond.methodLink "EvenCurveKeysModel" (126 : Nat) ({ cls := "EvenCurveKeysModel", name := "digest", desc := "(J)J" } : Jvm.MethodName)) ∈ wa := wa_3 190 (by decide +kernel) rfl
theorem ww_671 : (Jvm.Cond.static ({ cls := "EvenCurveKeysModel", name := "digest", desc := "(J)J" } : Jvm.MethodName)) ∈ wa := wa_3 191 (by decide +kernel) rfl
theorem ww_672 : (Jvm.Cond.code ({ cls := "EvenCurveKeysModel", name := "digest", desc := "(J)J" } : Jvm.MethodName) prog_9_method_7_code (2 : Nat) (Option.some Jvm.ClassFile.FieldType.long)) ∈ wa := wa_3 192 (by decide +kernel) rfl
theorem ww_673 : (Jvm.Cond.constantLong "EvenCurveKeysModel" (57 : Nat) (17 : Int64)) ∈ wa := wa_3 193 (by decide +kernel) rfl
theorem ww_674 : (Jvm.Cond.methodLink "EvenCurveKeysModel" (59 : Nat) ({ cls := "EvenCurveKeysModel", name := "h", desc := "(JJ)J" } : Jvm.MethodName)) ∈ wa := wa_3 194 (by decide +kernel) rfl
theorem ww_675 : (Jvm.Cond.static ({ cls := "EvenCurveKeysModel", name := "h", desc := "(JJ)J" } : Jvm.MethodName)) ∈ wa := wa_3 195 (by decide +kernel) rfl
theorem ww_676 : (Jvm.Cond.code ({ cls := "EvenCurveKeysModel", name := "h", desc := "(JJ)J" } : Jvm.MethodName) prog_9_method_6_code (6 : Nat) (Option.some Jvm.ClassFile.FieldType.long)) ∈ wa := wa_3 196 (by decide +kernel) rfl
theorem ww_677 : (Jvm.Cond.constantLong "EvenCurveKeysModel" (51 : Nat) (5903417616886299669 : Int64)) ∈ wa := wa_3 197 (by decide +kernel) rfl
theorem ww_678 : (Jvm.Cond.constantLong "EvenCurveKeysModel" (53 : Nat) (6364136223846793005 : Int64)) ∈ wa := wa_3 198 (by decide +kernel) rfl
theorem ww_679 : (Jvm.Cond.constantLong "EvenCurveKeysModel" (55 : Nat) (2685821657736338717 : Int64)) ∈ wa := wa_3 199 (by decide +kernel) rfl
theorem ww_680 : (Jvm.Cond.constantLong "EvenCurveKeysModel" (129 : Nat) (536864538 : Int64)) ∈ wa := wa_3 200 (by decide +kernel) rfl
theorem ww_681 : (Jvm.Cond.methodLink "EvenCurveKeysModel" (131 : Nat) ({ cls := "EvenCurveKeysModel", name := "odd", desc := "(J)Z" } : Jvm.MethodName)) ∈ wa := wa_3 201 (by decide +kernel) rfl
theorem ww_682 : (Jvm.Cond.static ({ cls := "EvenCurveKeysModel", name := "odd", desc := "(J)Z" } : Jvm.MethodName)) ∈ wa := wa_3 202 (by decide +kernel) rfl
theorem ww_683 : (Jvm.Cond.code ({ cls := "EvenCurveKeysModel", name := "odd", desc := "(J)Z" } : Jvm.MethodName) prog_9_method_13_code (2 : Nat) (Option.some Jvm.ClassFile.FieldType.boolean)) ∈ wa := wa_3 203 (by decide +kernel) rfl
theorem ww_684 : (Jvm.Cond.methodLink "EvenCurveKeysLaw" (122 : Nat) ({ cls := "EvenCurveKeysModel", name := "mark", desc := "()I" } : Jvm.MethodName)) ∈ wa := wa_3 204 (by decide +kernel) rfl
theorem ww_685 : (Jvm.Cond.instanceMethod ({ cls := "EvenCurveKeysModel", name := "mark", desc := "()I" } : Jvm.MethodName)) ∈ wa := wa_3 205 (by decide +kernel) rfl
theorem ww_686 : (Jvm.Cond.selects "EvenCurveKeysModel" ({ cls := "EvenCurveKeysModel", name := "mark", desc := "()I" } : Jvm.MethodName) ({ cls := "EvenCurveKeysModel", name := "mark", desc := "()I" } : Jvm.MethodName)) ∈ wa := wa_3 206 (by decide +kernel) rfl
theorem ww_687 : (Jvm.Cond.code ({ cls := "EvenCurveKeysModel", name := "mark", desc := "()I" } : Jvm.MethodName) prog_9_method_30_code (1 : Nat) (Option.some Jvm.ClassFile.FieldType.int)) ∈ wa := wa_3 207 (by decide +kernel) rfl
theorem ww_688 : (Jvm.Cond.methodLink "EvenCurveKeysLaw" (126 : Nat) ({ cls := "EvenCurveKeysModel", name := "good", desc := "(IJII)Z" } : Jvm.MethodName)) ∈ wa := wa_3 208 (by decide +kernel) rfl
theorem ww_689 : (Jvm.Cond.instanceMethod ({ cls := "EvenCurveKeysModel", name := "good", desc := "(IJII)Z" } : Jvm.MethodName)) ∈ wa := wa_3 209 (by decide +kernel) rfl
theorem ww_690 : (Jvm.Cond.selects "EvenCurveKeysModel" ({ cls := "EvenCurveKeysModel", name := "good", desc := "(IJII)Z" } : Jvm.MethodName) ({ cls := "EvenCurveKeysModel", name := "good", desc := "(IJII)Z" } : Jvm.MethodName)) ∈ wa := wa_3 210 (by decide +kernel) rfl
theorem ww_691 : (Jvm.Cond.code ({ cls := "EvenCurveKeysModel", name := "good", desc := "(IJII)Z" } : Jvm.MethodName) prog_9_method_32_code (12 : Nat) (Option.some Jvm.ClassFile.FieldType.boolean)) ∈ wa := wa_3 211 (by decide +kernel) rfl
theorem ww_692 : (Jvm.Cond.methodLink "EvenCurveKeysModel" (138 : Nat) ({ cls := "EvenCurveKeysModel", name := "noPoint", desc := "(I)I" } : Jvm.MethodName)) ∈ wa := wa_3 212 (by decide +kernel) rfl
theorem ww_694 : (Jvm.Cond.instanceMethod ({ cls := "EvenCurveKeysModel", name := "noPoint", desc := "(I)I" } : Jvm.MethodName)) ∈ wa := wa_3 214 (by decide +kernel) rfl
theorem ww_695 : (Jvm.Cond.code ({ cls := "EvenCurveKeysModel", name := "noPoint", desc := "(I)I" } : Jvm.MethodName) prog_9_method_31_code (2 : Nat) (Option.some Jvm.ClassFile.FieldType.int)) ∈ wa := wa_3 215 (by decide +kernel) rfl
theorem ww_696 : (Jvm.Cond.methodLink "EvenCurveKeysLaw" (130 : Nat) ({ cls := "EvenCurveKeysModel", name := "recover", desc := "(IJIII)J" } : Jvm.MethodName)) ∈ wa := wa_3 216 (by decide +kernel) rfl
theorem ww_697 : (Jvm.Cond.instanceMethod ({ cls := "EvenCurveKeysModel", name := "recover", desc := "(IJIII)J" } : Jvm.MethodName)) ∈ wa := wa_3 217 (by decide +kernel) rfl
theorem ww_698 : (Jvm.Cond.selects "EvenCurveKeysModel" ({ cls := "EvenCurveKeysModel", name := "recover", desc := "(IJIII)J" } : Jvm.MethodName) ({ cls := "EvenCurveKeysModel", name := "recover", desc := "(IJIII)J" } : Jvm.MethodName)) ∈ wa := wa_3 218 (by decide +kernel) rfl
theorem ww_699 : (Jvm.Cond.code ({ cls := "EvenCurveKeysModel", name := "recover", desc := "(IJIII)J" } : Jvm.MethodName) prog_9_method_33_code (16 : Nat) (Option.some Jvm.ClassFile.FieldType.long)) ∈ wa := wa_3 219 (by decide +kernel) rfl
theorem ww_700 : (Jvm.Cond.methodLink "EvenCurveKeysLaw" (134 : Nat) ({ cls := "EvenCurveKeysModel", name := "prove", desc := "(IJJ)J" } : Jvm.MethodName)) ∈ wa := wa_3 220 (by decide +kernel) rfl
theorem ww_701 : (Jvm.Cond.instanceMethod ({ cls := "EvenCurveKeysModel", name := "prove", desc := "(IJJ)J" } : Jvm.MethodName)) ∈ wa := wa_3 221 (by decide +kernel) rfl
theorem ww_702 : (Jvm.Cond.selects "EvenCurveKeysModel" ({ cls := "EvenCurveKeysModel", name := "prove", desc := "(IJJ)J" } : Jvm.MethodName) ({ cls := "EvenCurveKeysModel", name := "prove", desc := "(IJJ)J" } : Jvm.MethodName)) ∈ wa := wa_3 222 (by decide +kernel) rfl
theorem ww_703 : (Jvm.Cond.code ({ cls := "EvenCurveKeysModel", name := "prove", desc := "(IJJ)J" } : Jvm.MethodName) prog_9_method_35_code (16 : Nat) (Option.some Jvm.ClassFile.FieldType.long)) ∈ wa := wa_3 223 (by decide +kernel) rfl
theorem ww_704 : (Jvm.Cond.constantLong "EvenCurveKeysModel" (143 : Nat) (23 : Int64)) ∈ wa := wa_3 224 (by decide +kernel) rfl
theorem ww_705 : (Jvm.Cond.methodLink "EvenCurveKeysModel" (145 : Nat) ({ cls := "EvenCurveKeysModel", name := "challenge", desc := "(JJJ)J" } : Jvm.MethodName)) ∈ wa := wa_3 225 (by decide +kernel) rfl
theorem ww_706 : (Jvm.Cond.static ({ cls := "EvenCurveKeysModel", name := "challenge", desc := "(JJJ)J" } : Jvm.MethodName)) ∈ wa := wa_3 226 (by decide +kernel) rfl
theorem ww_707 : (Jvm.Cond.code ({ cls := "EvenCurveKeysModel", name := "challenge", desc := "(JJJ)J" } : Jvm.MethodName) prog_9_method_34_code (6 : Nat) (Option.some Jvm.ClassFile.FieldType.long)) ∈ wa := wa_3 227 (by decide +kernel) rfl
theorem ww_708 : (Jvm.Cond.constantLong "EvenCurveKeysModel" (141 : Nat) (29 : Int64)) ∈ wa := wa_3 228 (by decide +kernel) rfl
theorem ww_709 : (Jvm.Cond.methodLink "EvenCurveKeysLaw" (137 : Nat) ({ cls := "EvenCurveKeysModel", name := "holds", desc := "(IJII)Z" } : Jvm.MethodName)) ∈ wa := wa_3 229 (by decide +kernel) rfl
theorem ww_710 : (Jvm.Cond.instanceMethod ({ cls := "EvenCurveKeysModel", name := "holds", desc := "(IJII)Z" } : Jvm.MethodName)) ∈ wa := wa_3 230 (by decide +kernel) rfl
theorem ww_711 : (Jvm.Cond.selects "EvenCurveKeysModel" ({ cls := "EvenCurveKeysModel", name := "holds", desc := "(IJII)Z" } : Jvm.MethodName) ({ cls := "EvenCurveKeysModel", name := "holds", desc := "(IJII)Z" } : Jvm.MethodName)) ∈ wa := wa_3 231 (by decide +kernel) rfl
theorem ww_712 : (Jvm.Cond.code ({ cls := "EvenCurveKeysModel", name := "holds", desc := "(IJII)Z" } : Jvm.MethodName) prog_9_method_36_code (12 : Nat) (Option.some Jvm.ClassFile.FieldType.boolean)) ∈ wa := wa_3 232 (by decide +kernel) rfl
theorem ww_713 : (Jvm.Cond.methodLink "EvenCurveKeysLaw" (140 : Nat) ({ cls := "EvenCurveKeysModel", name := "bundle", desc := "(IJII)I" } : Jvm.MethodName)) ∈ wa := wa_3 233 (by decide +kernel) rfl
theorem ww_714 : (Jvm.Cond.instanceMethod ({ cls := "EvenCurveKeysModel", name := "bundle", desc := "(IJII)I" } : Jvm.MethodName)) ∈ wa := wa_3 234 (by decide +kernel) rfl
theorem ww_715 : (Jvm.Cond.selects "EvenCurveKeysModel" ({ cls := "EvenCurveKeysModel", name := "bundle", desc := "(IJII)I" } : Jvm.MethodName) ({ cls := "EvenCurveKeysModel", name := "bundle", desc := "(IJII)I" } : Jvm.MethodName)) ∈ wa := wa_3 235 (by decide +kernel) rfl
theorem ww_716 : (Jvm.Cond.code ({ cls := "EvenCurveKeysModel", name := "bundle", desc := "(IJII)I" } : Jvm.MethodName) prog_9_method_37_code (6 : Nat) (Option.some Jvm.ClassFile.FieldType.int)) ∈ wa := wa_3 236 (by decide +kernel) rfl
theorem ww_717 : (Jvm.Cond.methodLink "EvenCurveKeysLaw" (145 : Nat) ({ cls := "EvenCurveKeysModel", name := "right", desc := "(J)Z" } : Jvm.MethodName)) ∈ wa := wa_3 237 (by decide +kernel) rfl
theorem ww_718 : (Jvm.Cond.instanceMethod ({ cls := "EvenCurveKeysModel", name := "right", desc := "(J)Z" } : Jvm.MethodName)) ∈ wa := wa_3 238 (by decide +kernel) rfl
theorem ww_719 : (Jvm.Cond.selects "EvenCurveKeysModel" ({ cls := "EvenCurveKeysModel", name := "right", desc := "(J)Z" } : Jvm.MethodName) ({ cls := "EvenCurveKeysModel", name := "right", desc := "(J)Z" } : Jvm.MethodName)) ∈ wa := wa_3 239 (by decide +kernel) rfl
theorem ww_720 : (Jvm.Cond.code ({ cls := "EvenCurveKeysModel", name := "right", desc := "(J)Z" } : Jvm.MethodName) prog_9_method_38_code (15 : Nat) (Option.some Jvm.ClassFile.FieldType.boolean)) ∈ wa := wa_4 0 (by decide +kernel) rfl
theorem ww_721 : (Jvm.Cond.constantLong "EvenCurveKeysModel" (151 : Nat) (1073729076 : Int64)) ∈ wa := wa_4 1 (by decide +kernel) rfl
theorem ww_722 : (Jvm.Cond.methodLink "EvenCurveKeysLaw" (148 : Nat) ({ cls := "EvenCurveKeysModel", name := "agree", desc := "(II)J" } : Jvm.MethodName)) ∈ wa := wa_4 2 (by decide +kernel) rfl
theorem ww_723 : (Jvm.Cond.instanceMethod ({ cls := "EvenCurveKeysModel", name := "agree", desc := "(II)J" } : Jvm.MethodName)) ∈ wa := wa_4 3 (by decide +kernel) rfl
theorem ww_724 : (Jvm.Cond.selects "EvenCurveKeysModel" ({ cls := "EvenCurveKeysModel", name := "agree", desc := "(II)J" } : Jvm.MethodName) ({ cls := "EvenCurveKeysModel", name := "agree", desc := "(II)J" } : Jvm.MethodName)) ∈ wa := wa_4 4 (by decide +kernel) rfl
theorem ww_725 : (Jvm.Cond.code ({ cls := "EvenCurveKeysModel", name := "agree", desc := "(II)J" } : Jvm.MethodName) prog_9_method_39_code (5 : Nat) (Option.some Jvm.ClassFile.FieldType.long)) ∈ wa := wa_4 5 (by decide +kernel) rfl
theorem ww_726 : (Jvm.Cond.methodLink "EvenCurveKeysLaw" (151 : Nat) ({ cls := "EvenCurveKeysModel", name := "written", desc := "(III)I" } : Jvm.MethodName)) ∈ wa := wa_4 6 (by decide +kernel) rfl
theorem ww_727 : (Jvm.Cond.instanceMethod ({ cls := "EvenCurveKeysModel", name := "written", desc := "(III)I" } : Jvm.MethodName)) ∈ wa := wa_4 7 (by decide +kernel) rfl
theorem ww_728 : (Jvm.Cond.selects "EvenCurveKeysModel" ({ cls := "EvenCurveKeysModel", name := "written", desc := "(III)I" } : Jvm.MethodName) ({ cls := "EvenCurveKeysModel", name := "written", desc := "(III)I" } : Jvm.MethodName)) ∈ wa := wa_4 8 (by decide +kernel) rfl
theorem ww_729 : (Jvm.Cond.code ({ cls := "EvenCurveKeysModel", name := "written", desc := "(III)I" } : Jvm.MethodName) prog_9_method_44_code (4 : Nat) (Option.some Jvm.ClassFile.FieldType.int)) ∈ wa := wa_4 9 (by decide +kernel) rfl
theorem ww_730 : (Jvm.Cond.methodLink "EvenCurveKeysModel" (168 : Nat) ({ cls := "EvenCurveKeysModel", name := "layForm", desc := "(II)V" } : Jvm.MethodName)) ∈ wa := wa_4 10 (by decide +kernel) rfl
theorem ww_732 : (Jvm.Cond.instanceMethod ({ cls := "EvenCurveKeysModel", name := "layForm", desc := "(II)V" } : Jvm.MethodName)) ∈ wa := wa_4 12 (by decide +kernel) rfl
theorem ww_733 : (Jvm.Cond.code ({ cls := "EvenCurveKeysModel", name := "layForm", desc := "(II)V" } : Jvm.MethodName) prog_9_method_43_code (3 : Nat) (Option.none : Option Jvm.ClassFile.FieldType)) ∈ wa := wa_4 13 (by decide +kernel) rfl
theorem ww_734 : (Jvm.Cond.methodLink "EvenCurveKeysModel" (158 : Nat) ({ cls := "EvenCurveKeysModel", name := "layByte", desc := "(I)V" } : Jvm.MethodName)) ∈ wa := wa_4 14 (by decide +kernel) rfl
theorem ww_736 : (Jvm.Cond.instanceMethod ({ cls := "EvenCurveKeysModel", name := "layByte", desc := "(I)V" } : Jvm.MethodName)) ∈ wa := wa_4 16 (by decide +kernel) rfl
theorem ww_737 : (Jvm.Cond.code ({ cls := "EvenCurveKeysModel", name := "layByte", desc := "(I)V" } : Jvm.MethodName) prog_9_method_41_code (2 : Nat) (Option.none : Option Jvm.ClassFile.FieldType)) ∈ wa := wa_4 17 (by decide +kernel) rfl
theorem ww_738 : (Jvm.Cond.methodLink "EvenCurveKeysModel" (162 : Nat) ({ cls := "EvenCurveKeysModel", name := "bytesOf", desc := "(I)I" } : Jvm.MethodName)) ∈ wa := wa_4 18 (by decide +kernel) rfl
theorem ww_739 : (Jvm.Cond.static ({ cls := "EvenCurveKeysModel", name := "bytesOf", desc := "(I)I" } : Jvm.MethodName)) ∈ wa := wa_4 19 (by decide +kernel) rfl
theorem ww_740 : (Jvm.Cond.code ({ cls := "EvenCurveKeysModel", name := "bytesOf", desc := "(I)I" } : Jvm.MethodName) prog_9_method_40_code (1 : Nat) (Option.some Jvm.ClassFile.FieldType.int)) ∈ wa := wa_4 20 (by decide +kernel) rfl
theorem ww_741 : (Jvm.Cond.constant "EvenCurveKeysModel" (153 : Nat) (32768 : Int32)) ∈ wa := wa_4 21 (by decide +kernel) rfl
theorem ww_742 : (Jvm.Cond.constant "EvenCurveKeysModel" (154 : Nat) (8388608 : Int32)) ∈ wa := wa_4 22 (by decide +kernel) rfl
theorem ww_743 : (Jvm.Cond.methodLink "EvenCurveKeysModel" (165 : Nat) ({ cls := "EvenCurveKeysModel", name := "layNumber", desc := "(I)V" } : Jvm.MethodName)) ∈ wa := wa_4 23 (by decide +kernel) rfl
theorem ww_745 : (Jvm.Cond.instanceMethod ({ cls := "EvenCurveKeysModel", name := "layNumber", desc := "(I)V" } : Jvm.MethodName)) ∈ wa := wa_4 25 (by decide +kernel) rfl
theorem ww_746 : (Jvm.Cond.code ({ cls := "EvenCurveKeysModel", name := "layNumber", desc := "(I)V" } : Jvm.MethodName) prog_9_method_42_code (3 : Nat) (Option.none : Option Jvm.ClassFile.FieldType)) ∈ wa := wa_4 26 (by decide +kernel) rfl
theorem ww_747 : (Jvm.Cond.methodLink "EvenCurveKeysLaw" (154 : Nat) ({ cls := "EvenCurveKeysModel", name := "type", desc := "(I)I" } : Jvm.MethodName)) ∈ wa := wa_4 27 (by decide +kernel) rfl
theorem ww_748 : (Jvm.Cond.instanceMethod ({ cls := "EvenCurveKeysModel", name := "type", desc := "(I)I" } : Jvm.MethodName)) ∈ wa := wa_4 28 (by decide +kernel) rfl
theorem ww_749 : (Jvm.Cond.selects "EvenCurveKeysModel" ({ cls := "EvenCurveKeysModel", name := "type", desc := "(I)I" } : Jvm.MethodName) ({ cls := "EvenCurveKeysModel", name := "type", desc := "(I)I" } : Jvm.MethodName)) ∈ wa := wa_4 29 (by decide +kernel) rfl
theorem ww_750 : (Jvm.Cond.code ({ cls := "EvenCurveKeysModel", name := "type", desc := "(I)I" } : Jvm.MethodName) prog_9_method_45_code (2 : Nat) (Option.some Jvm.ClassFile.FieldType.int)) ∈ wa := wa_4 30 (by decide +kernel) rfl
theorem ww_751 : (Jvm.Cond.methodLink "EvenCurveKeysLaw" (159 : Nat) ({ cls := "EvenCurveKeysModel", name := "read", desc := "()J" } : Jvm.MethodName)) ∈ wa := wa_4 31 (by decide +kernel) rfl
theorem ww_752 : (Jvm.Cond.instanceMethod ({ cls := "EvenCurveKeysModel", name := "read", desc := "()J" } : Jvm.MethodName)) ∈ wa := wa_4 32 (by decide +kernel) rfl
theorem ww_753 : (Jvm.Cond.selects "EvenCurveKeysModel" ({ cls := "EvenCurveKeysModel", name := "read", desc := "()J" } : Jvm.MethodName) ({ cls := "EvenCurveKeysModel", name := "read", desc := "()J" } : Jvm.MethodName)) ∈ wa := wa_4 33 (by decide +kernel) rfl
theorem ww_754 : (Jvm.Cond.code ({ cls := "EvenCurveKeysModel", name := "read", desc := "()J" } : Jvm.MethodName) prog_9_method_49_code (4 : Nat) (Option.some Jvm.ClassFile.FieldType.long)) ∈ wa := wa_4 34 (by decide +kernel) rfl
theorem ww_755 : (Jvm.Cond.methodLink "EvenCurveKeysModel" (178 : Nat) ({ cls := "EvenCurveKeysModel", name := "numberAt", desc := "(I)I" } : Jvm.MethodName)) ∈ wa := wa_4 35 (by decide +kernel) rfl
theorem ww_757 : (Jvm.Cond.instanceMethod ({ cls := "EvenCurveKeysModel", name := "numberAt", desc := "(I)I" } : Jvm.MethodName)) ∈ wa := wa_4 37 (by decide +kernel) rfl
theorem ww_758 : (Jvm.Cond.code ({ cls := "EvenCurveKeysModel", name := "numberAt", desc := "(I)I" } : Jvm.MethodName) prog_9_method_47_code (4 : Nat) (Option.some Jvm.ClassFile.FieldType.int)) ∈ wa := wa_4 38 (by decide +kernel) rfl
theorem ww_759 : (Jvm.Cond.methodLink "EvenCurveKeysModel" (175 : Nat) ({ cls := "EvenCurveKeysModel", name := "byteAt", desc := "(I)I" } : Jvm.MethodName)) ∈ wa := wa_4 39 (by decide +kernel) rfl
theorem ww_761 : (Jvm.Cond.instanceMethod ({ cls := "EvenCurveKeysModel", name := "byteAt", desc := "(I)I" } : Jvm.MethodName)) ∈ wa := wa_4 41 (by decide +kernel) rfl
theorem ww_762 : (Jvm.Cond.code ({ cls := "EvenCurveKeysModel", name := "byteAt", desc := "(I)I" } : Jvm.MethodName) prog_9_method_46_code (2 : Nat) (Option.some Jvm.ClassFile.FieldType.int)) ∈ wa := wa_4 42 (by decide +kernel) rfl
theorem ww_763 : (Jvm.Cond.methodLink "EvenCurveKeysModel" (181 : Nat) ({ cls := "EvenCurveKeysModel", name := "same", desc := "(II)Z" } : Jvm.MethodName)) ∈ wa := wa_4 43 (by decide +kernel) rfl
theorem ww_765 : (Jvm.Cond.instanceMethod ({ cls := "EvenCurveKeysModel", name := "same", desc := "(II)Z" } : Jvm.MethodName)) ∈ wa := wa_4 45 (by decide +kernel) rfl
theorem ww_766 : (Jvm.Cond.code ({ cls := "EvenCurveKeysModel", name := "same", desc := "(II)Z" } : Jvm.MethodName) prog_9_method_48_code (5 : Nat) (Option.some Jvm.ClassFile.FieldType.boolean)) ∈ wa := wa_4 46 (by decide +kernel) rfl
theorem ww_767 : (Jvm.Cond.constantLong "EvenCurveKeysLaw" (90 : Nat) (4294967295 : Int64)) ∈ wa := wa_4 47 (by decide +kernel) rfl
end
section
theorem d_C_pointAt_0 : decode b_C_pointAt 0 = .ok (.lload_n 0, 1) := by decide +kernel
theorem d_C_pointAt_1 : decode b_C_pointAt 1 = .ok (.invokestatic 33, 3) := by decide +kernel
theorem d_C_pointAt_4 : decode b_C_pointAt 4 = .ok (.ifCond .ne 5, 3) := by decide +kernel
theorem d_C_pointAt_7 : decode b_C_pointAt 7 = .ok (.lconst 0, 1) := by decide +kernel
theorem d_C_pointAt_8 : decode b_C_pointAt 8 = .ok (.lreturn, 1) := by decide +kernel
theorem d_C_pointAt_9 : decode b_C_pointAt 9 = .ok (.lload_n 0, 1) := by decide +kernel
theorem d_C_pointAt_10 : decode b_C_pointAt 10 = .ok (.lload_n 0, 1) := by decide +kernel
theorem d_C_pointAt_11 : decode b_C_pointAt 11 = .ok (.lmul, 1) := by decide +kernel
theorem d_C_pointAt_12 : decode b_C_pointAt 12 = .ok (.ldc2_w 21, 3) := by decide +kernel
theorem d_C_pointAt_15 : decode b_C_pointAt 15 = .ok (.lrem, 1) := by decide +kernel
theorem d_C_pointAt_16 : decode b_C_pointAt 16 = .ok (.lload_n 0, 1) := by decide +kernel
theorem d_C_pointAt_17 : decode b_C_pointAt 17 = .ok (.lmul, 1) := by decide +kernel
theorem d_C_pointAt_18 : decode b_C_pointAt 18 = .ok (.ldc2_w 36, 3) := by decide +kernel
theorem d_C_pointAt_21 : decode b_C_pointAt 21 = .ok (.ladd, 1) := by decide +kernel
theorem d_C_pointAt_22 : decode b_C_pointAt 22 = .ok (.ldc2_w 21, 3) := by decide +kernel
theorem d_C_pointAt_25 : decode b_C_pointAt 25 = .ok (.lrem, 1) := by decide +kernel
theorem d_C_pointAt_26 : decode b_C_pointAt 26 = .ok (.lstore_n 3, 1) := by decide +kernel
theorem d_C_pointAt_27 : decode b_C_pointAt 27 = .ok (.lload_n 3, 1) := by decide +kernel
theorem d_C_pointAt_28 : decode b_C_pointAt 28 = .ok (.invokestatic 38, 3) := by decide +kernel
theorem d_C_pointAt_31 : decode b_C_pointAt 31 = .ok (.lstore 5, 2) := by decide +kernel
theorem d_C_pointAt_33 : decode b_C_pointAt 33 = .ok (.lload 5, 2) := by decide +kernel
theorem d_C_pointAt_35 : decode b_C_pointAt 35 = .ok (.lload 5, 2) := by decide +kernel
theorem d_C_pointAt_37 : decode b_C_pointAt 37 = .ok (.lmul, 1) := by decide +kernel
theorem d_C_pointAt_38 : decode b_C_pointAt 38 = .ok (.ldc2_w 21, 3) := by decide +kernel
theorem d_C_pointAt_41 : decode b_C_pointAt 41 = .ok (.lrem, 1) := by decide +kernel
theorem d_C_pointAt_42 : decode b_C_pointAt 42 = .ok (.lload_n 3, 1) := by decide +kernel
theorem d_C_pointAt_43 : decode b_C_pointAt 43 = .ok (.lcmp, 1) := by decide +kernel
theorem d_C_pointAt_44 : decode b_C_pointAt 44 = .ok (.ifCond .eq 5, 3) := by decide +kernel
theorem d_C_pointAt_47 : decode b_C_pointAt 47 = .ok (.lconst 0, 1) := by decide +kernel
theorem d_C_pointAt_48 : decode b_C_pointAt 48 = .ok (.lreturn, 1) := by decide +kernel
theorem d_C_pointAt_49 : decode b_C_pointAt 49 = .ok (.lload_n 0, 1) := by decide +kernel
theorem d_C_pointAt_50 : decode b_C_pointAt 50 = .ok (.ldc2_w 9, 3) := by decide +kernel
theorem d_C_pointAt_53 : decode b_C_pointAt 53 = .ok (.lmul, 1) := by decide +kernel
theorem d_C_pointAt_54 : decode b_C_pointAt 54 = .ok (.lload 5, 2) := by decide +kernel
theorem d_C_pointAt_56 : decode b_C_pointAt 56 = .ok (.ladd, 1) := by decide +kernel
theorem d_C_pointAt_57 : decode b_C_pointAt 57 = .ok (.lstore 7, 2) := by decide +kernel
theorem d_C_pointAt_59 : decode b_C_pointAt 59 = .ok (.lload 7, 2) := by decide +kernel
theorem d_C_pointAt_61 : decode b_C_pointAt 61 = .ok (.invokestatic 26, 3) := by decide +kernel
theorem d_C_pointAt_64 : decode b_C_pointAt 64 = .ok (.iload_n 2, 1) := by decide +kernel
theorem d_C_pointAt_65 : decode b_C_pointAt 65 = .ok (.if_icmp .ne 8, 3) := by decide +kernel
theorem d_C_pointAt_68 : decode b_C_pointAt 68 = .ok (.lload 7, 2) := by decide +kernel
theorem d_C_pointAt_70 : decode b_C_pointAt 70 = .ok (.goto 8, 3) := by decide +kernel
theorem d_C_pointAt_73 : decode b_C_pointAt 73 = .ok (.lload 7, 2) := by decide +kernel
theorem d_C_pointAt_75 : decode b_C_pointAt 75 = .ok (.invokestatic 30, 3) := by decide +kernel
theorem d_C_pointAt_78 : decode b_C_pointAt 78 = .ok (.lreturn, 1) := by decide +kernel
theorem d_F_has_0 : decode b_F_has 0 = .ok (.lload_n 0, 1) := by decide +kernel
theorem d_F_has_1 : decode b_F_has 1 = .ok (.lconst 0, 1) := by decide +kernel
theorem d_F_has_2 : decode b_F_has 2 = .ok (.lcmp, 1) := by decide +kernel
theorem d_F_has_3 : decode b_F_has 3 = .ok (.ifCond .lt 15, 3) := by decide +kernel
theorem d_F_has_6 : decode b_F_has 6 = .ok (.lload_n 0, 1) := by decide +kernel
theorem d_F_has_7 : decode b_F_has 7 = .ok (.ldc2_w 9, 3) := by decide +kernel
theorem d_F_has_10 : decode b_F_has 10 = .ok (.lcmp, 1) := by decide +kernel
theorem d_F_has_11 : decode b_F_has 11 = .ok (.ifCond .ge 7, 3) := by decide +kernel
theorem d_F_has_14 : decode b_F_has 14 = .ok (.iconst 1, 1) := by decide +kernel
theorem d_F_has_15 : decode b_F_has 15 = .ok (.goto 4, 3) := by decide +kernel
theorem d_F_has_18 : decode b_F_has 18 = .ok (.iconst 0, 1) := by decide +kernel
theorem d_F_has_19 : decode b_F_has 19 = .ok (.ireturn, 1) := by decide +kernel
theorem d_F_rootIfAny_0 : decode b_F_rootIfAny 0 = .ok (.ldc2_w 21, 3) := by decide +kernel
theorem d_F_rootIfAny_3 : decode b_F_rootIfAny 3 = .ok (.lstore_n 2, 1) := by decide +kernel
theorem d_F_rootIfAny_4 : decode b_F_rootIfAny 4 = .ok (.lconst 1, 1) := by decide +kernel
theorem d_F_rootIfAny_5 : decode b_F_rootIfAny 5 = .ok (.lstore 4, 2) := by decide +kernel
theorem d_F_rootIfAny_7 : decode b_F_rootIfAny 7 = .ok (.bipush 29, 2) := by decide +kernel
theorem d_F_rootIfAny_9 : decode b_F_rootIfAny 9 = .ok (.istore 6, 2) := by decide +kernel
theorem d_F_rootIfAny_11 : decode b_F_rootIfAny 11 = .ok (.iload 6, 2) := by decide +kernel
theorem d_F_rootIfAny_13 : decode b_F_rootIfAny 13 = .ok (.ifCond .lt 41, 3) := by decide +kernel
theorem d_F_rootIfAny_16 : decode b_F_rootIfAny 16 = .ok (.lload 4, 2) := by decide +kernel
theorem d_F_rootIfAny_18 : decode b_F_rootIfAny 18 = .ok (.lload 4, 2) := by decide +kernel
theorem d_F_rootIfAny_20 : decode b_F_rootIfAny 20 = .ok (.lmul, 1) := by decide +kernel
theorem d_F_rootIfAny_21 : decode b_F_rootIfAny 21 = .ok (.ldc2_w 9, 3) := by decide +kernel
theorem d_F_rootIfAny_24 : decode b_F_rootIfAny 24 = .ok (.lrem, 1) := by decide +kernel
theorem d_F_rootIfAny_25 : decode b_F_rootIfAny 25 = .ok (.lstore 4, 2) := by decide +kernel
theorem d_F_rootIfAny_27 : decode b_F_rootIfAny 27 = .ok (.lload_n 2, 1) := by decide +kernel
theorem d_F_rootIfAny_28 : decode b_F_rootIfAny 28 = .ok (.iload 6, 2) := by decide +kernel
theorem d_F_rootIfAny_30 : decode b_F_rootIfAny 30 = .ok (.lushr, 1) := by decide +kernel
theorem d_F_rootIfAny_31 : decode b_F_rootIfAny 31 = .ok (.lconst 1, 1) := by decide +kernel
theorem d_F_rootIfAny_32 : decode b_F_rootIfAny 32 = .ok (.land, 1) := by decide +kernel
theorem d_F_rootIfAny_33 : decode b_F_rootIfAny 33 = .ok (.lconst 1, 1) := by decide +kernel
theorem d_F_rootIfAny_34 : decode b_F_rootIfAny 34 = .ok (.lcmp, 1) := by decide +kernel
theorem d_F_rootIfAny_35 : decode b_F_rootIfAny 35 = .ok (.ifCond .ne 13, 3) := by decide +kernel
theorem d_F_rootIfAny_38 : decode b_F_rootIfAny 38 = .ok (.lload 4, 2) := by decide +kernel
theorem d_F_rootIfAny_40 : decode b_F_rootIfAny 40 = .ok (.lload_n 0, 1) := by decide +kernel
theorem d_F_rootIfAny_41 : decode b_F_rootIfAny 41 = .ok (.lmul, 1) := by decide +kernel
theorem d_F_rootIfAny_42 : decode b_F_rootIfAny 42 = .ok (.ldc2_w 9, 3) := by decide +kernel
theorem d_F_rootIfAny_45 : decode b_F_rootIfAny 45 = .ok (.lrem, 1) := by decide +kernel
theorem d_F_rootIfAny_46 : decode b_F_rootIfAny 46 = .ok (.lstore 4, 2) := by decide +kernel
theorem d_F_rootIfAny_48 : decode b_F_rootIfAny 48 = .ok (.iinc 6 (-1), 3) := by decide +kernel
theorem d_F_rootIfAny_51 : decode b_F_rootIfAny 51 = .ok (.goto (-40), 3) := by decide +kernel
theorem d_F_rootIfAny_54 : decode b_F_rootIfAny 54 = .ok (.lload 4, 2) := by decide +kernel
theorem d_F_rootIfAny_56 : decode b_F_rootIfAny 56 = .ok (.lreturn, 1) := by decide +kernel
theorem d_C_isOdd_0 : decode b_C_isOdd 0 = .ok (.lload_n 0, 1) := by decide +kernel
theorem d_C_isOdd_1 : decode b_C_isOdd 1 = .ok (.ldc2_w 11, 3) := by decide +kernel
theorem d_C_isOdd_4 : decode b_C_isOdd 4 = .ok (.lrem, 1) := by decide +kernel
theorem d_C_isOdd_5 : decode b_C_isOdd 5 = .ok (.lconst 1, 1) := by decide +kernel
theorem d_C_isOdd_6 : decode b_C_isOdd 6 = .ok (.lcmp, 1) := by decide +kernel
theorem d_C_isOdd_7 : decode b_C_isOdd 7 = .ok (.ifCond .ne 7, 3) := by decide +kernel
theorem d_C_isOdd_10 : decode b_C_isOdd 10 = .ok (.iconst 1, 1) := by decide +kernel
theorem d_C_isOdd_11 : decode b_C_isOdd 11 = .ok (.goto 4, 3) := by decide +kernel
theorem d_C_isOdd_14 : decode b_C_isOdd 14 = .ok (.iconst 0, 1) := by decide +kernel
theorem d_C_isOdd_15 : decode b_C_isOdd 15 = .ok (.ireturn, 1) := by decide +kernel
theorem d_C_negative_0 : decode b_C_negative 0 = .ok (.lload_n 0, 1) := by decide +kernel
theorem d_C_negative_1 : decode b_C_negative 1 = .ok (.lconst 0, 1) := by decide +kernel
theorem d_C_negative_2 : decode b_C_negative 2 = .ok (.lcmp, 1) := by decide +kernel
theorem d_C_negative_3 : decode b_C_negative 3 = .ok (.ifCond .ne 7, 3) := by decide +kernel
theorem d_C_negative_6 : decode b_C_negative 6 = .ok (.lconst 0, 1) := by decide +kernel
theorem d_C_negative_7 : decode b_C_negative 7 = .ok (.goto 20, 3) := by decide +kernel
theorem d_C_negative_10 : decode b_C_negative 10 = .ok (.lload_n 0, 1) := by decide +kernel
theorem d_C_negative_11 : decode b_C_negative 11 = .ok (.invokestatic 15, 3) := by decide +kernel
theorem d_C_negative_14 : decode b_C_negative 14 = .ok (.ldc2_w 9, 3) := by decide +kernel
theorem d_C_negative_17 : decode b_C_negative 17 = .ok (.lmul, 1) := by decide +kernel
theorem d_C_negative_18 : decode b_C_negative 18 = .ok (.ldc2_w 21, 3) := by decide +kernel
theorem d_C_negative_21 : decode b_C_negative 21 = .ok (.lload_n 0, 1) := by decide +kernel
theorem d_C_negative_22 : decode b_C_negative 22 = .ok (.invokestatic 23, 3) := by decide +kernel
theorem d_C_negative_25 : decode b_C_negative 25 = .ok (.lsub, 1) := by decide +kernel
theorem d_C_negative_26 : decode b_C_negative 26 = .ok (.ladd, 1) := by decide +kernel
theorem d_C_negative_27 : decode b_C_negative 27 = .ok (.lreturn, 1) := by decide +kernel
theorem d_C_xOf_0 : decode b_C_xOf 0 = .ok (.lload_n 0, 1) := by decide +kernel
theorem d_C_xOf_1 : decode b_C_xOf 1 = .ok (.ldc2_w 9, 3) := by decide +kernel
theorem d_C_xOf_4 : decode b_C_xOf 4 = .ok (.ldiv, 1) := by decide +kernel
theorem d_C_xOf_5 : decode b_C_xOf 5 = .ok (.lreturn, 1) := by decide +kernel
theorem d_C_yOf_0 : decode b_C_yOf 0 = .ok (.lload_n 0, 1) := by decide +kernel
theorem d_C_yOf_1 : decode b_C_yOf 1 = .ok (.ldc2_w 9, 3) := by decide +kernel
theorem d_C_yOf_4 : decode b_C_yOf 4 = .ok (.lrem, 1) := by decide +kernel
theorem d_C_yOf_5 : decode b_C_yOf 5 = .ok (.lreturn, 1) := by decide +kernel
theorem d_C_toCode_0 : decode b_C_toCode 0 = .ok (.lload_n 0, 1) := by decide +kernel
theorem d_C_toCode_1 : decode b_C_toCode 1 = .ok (.lconst 0, 1) := by decide +kernel
theorem d_C_toCode_2 : decode b_C_toCode 2 = .ok (.lcmp, 1) := by decide +kernel
theorem d_C_toCode_3 : decode b_C_toCode 3 = .ok (.ifCond .ne 7, 3) := by decide +kernel
theorem d_C_toCode_6 : decode b_C_toCode 6 = .ok (.lconst 0, 1) := by decide +kernel
theorem d_C_toCode_7 : decode b_C_toCode 7 = .ok (.goto 21, 3) := by decide +kernel
theorem d_C_toCode_10 : decode b_C_toCode 10 = .ok (.ldc2_w 11, 3) := by decide +kernel
theorem d_C_toCode_13 : decode b_C_toCode 13 = .ok (.lload_n 0, 1) := by decide +kernel
theorem d_C_toCode_14 : decode b_C_toCode 14 = .ok (.ldc2_w 11, 3) := by decide +kernel
theorem d_C_toCode_17 : decode b_C_toCode 17 = .ok (.lrem, 1) := by decide +kernel
theorem d_C_toCode_18 : decode b_C_toCode 18 = .ok (.ladd, 1) := by decide +kernel
theorem d_C_toCode_19 : decode b_C_toCode 19 = .ok (.ldc2_w 9, 3) := by decide +kernel
theorem d_C_toCode_22 : decode b_C_toCode 22 = .ok (.lmul, 1) := by decide +kernel
theorem d_C_toCode_23 : decode b_C_toCode 23 = .ok (.lload_n 0, 1) := by decide +kernel
theorem d_C_toCode_24 : decode b_C_toCode 24 = .ok (.invokestatic 15, 3) := by decide +kernel
theorem d_C_toCode_27 : decode b_C_toCode 27 = .ok (.ladd, 1) := by decide +kernel
theorem d_C_toCode_28 : decode b_C_toCode 28 = .ok (.lreturn, 1) := by decide +kernel
theorem d_S_has_0 : decode b_S_has 0 = .ok (.lload_n 0, 1) := by decide +kernel
theorem d_S_has_1 : decode b_S_has 1 = .ok (.lconst 0, 1) := by decide +kernel
theorem d_S_has_2 : decode b_S_has 2 = .ok (.lcmp, 1) := by decide +kernel
theorem d_S_has_3 : decode b_S_has 3 = .ok (.ifCond .lt 15, 3) := by decide +kernel
theorem d_S_has_6 : decode b_S_has 6 = .ok (.lload_n 0, 1) := by decide +kernel
theorem d_S_has_7 : decode b_S_has 7 = .ok (.ldc2_w 9, 3) := by decide +kernel
theorem d_S_has_10 : decode b_S_has 10 = .ok (.lcmp, 1) := by decide +kernel
theorem d_S_has_11 : decode b_S_has 11 = .ok (.ifCond .ge 7, 3) := by decide +kernel
theorem d_S_has_14 : decode b_S_has 14 = .ok (.iconst 1, 1) := by decide +kernel
theorem d_S_has_15 : decode b_S_has 15 = .ok (.goto 4, 3) := by decide +kernel
theorem d_S_has_18 : decode b_S_has 18 = .ok (.iconst 0, 1) := by decide +kernel
theorem d_S_has_19 : decode b_S_has 19 = .ok (.ireturn, 1) := by decide +kernel
theorem d_I_weight_0 : decode b_I_weight 0 = .ok (.iload_n 2, 1) := by decide +kernel
theorem d_I_weight_1 : decode b_I_weight 1 = .ok (.ifCond .ne 7, 3) := by decide +kernel
theorem d_I_weight_4 : decode b_I_weight 4 = .ok (.lconst 1, 1) := by decide +kernel
theorem d_I_weight_5 : decode b_I_weight 5 = .ok (.goto 18, 3) := by decide +kernel
theorem d_I_weight_8 : decode b_I_weight 8 = .ok (.lconst 1, 1) := by decide +kernel
theorem d_I_weight_9 : decode b_I_weight 9 = .ok (.lload_n 0, 1) := by decide +kernel
theorem d_I_weight_10 : decode b_I_weight 10 = .ok (.iload_n 2, 1) := by decide +kernel
theorem d_I_weight_11 : decode b_I_weight 11 = .ok (.i2l, 1) := by decide +kernel
theorem d_I_weight_12 : decode b_I_weight 12 = .ok (.invokestatic 71, 3) := by decide +kernel
theorem d_I_weight_15 : decode b_I_weight 15 = .ok (.bipush 34, 2) := by decide +kernel
theorem d_I_weight_17 : decode b_I_weight 17 = .ok (.lushr, 1) := by decide +kernel
theorem d_I_weight_18 : decode b_I_weight 18 = .ok (.ldc2_w 74, 3) := by decide +kernel
theorem d_I_weight_21 : decode b_I_weight 21 = .ok (.lrem, 1) := by decide +kernel
theorem d_I_weight_22 : decode b_I_weight 22 = .ok (.ladd, 1) := by decide +kernel
theorem d_I_weight_23 : decode b_I_weight 23 = .ok (.lreturn, 1) := by decide +kernel
theorem d_K_mix_0 : decode b_K_mix 0 = .ok (.lload_n 0, 1) := by decide +kernel
theorem d_K_mix_1 : decode b_K_mix 1 = .ok (.ldc2_w 185, 3) := by decide +kernel
theorem d_K_mix_4 : decode b_K_mix 4 = .ok (.lxor, 1) := by decide +kernel
theorem d_K_mix_5 : decode b_K_mix 5 = .ok (.ldc2_w 187, 3) := by decide +kernel
theorem d_K_mix_8 : decode b_K_mix 8 = .ok (.lmul, 1) := by decide +kernel
theorem d_K_mix_9 : decode b_K_mix 9 = .ok (.lload_n 2, 1) := by decide +kernel
theorem d_K_mix_10 : decode b_K_mix 10 = .ok (.ladd, 1) := by decide +kernel
theorem d_K_mix_11 : decode b_K_mix 11 = .ok (.lstore 4, 2) := by decide +kernel
theorem d_K_mix_13 : decode b_K_mix 13 = .ok (.lload 4, 2) := by decide +kernel
theorem d_K_mix_15 : decode b_K_mix 15 = .ok (.lload 4, 2) := by decide +kernel
theorem d_K_mix_17 : decode b_K_mix 17 = .ok (.bipush 31, 2) := by decide +kernel
theorem d_K_mix_19 : decode b_K_mix 19 = .ok (.lushr, 1) := by decide +kernel
theorem d_K_mix_20 : decode b_K_mix 20 = .ok (.lxor, 1) := by decide +kernel
theorem d_K_mix_21 : decode b_K_mix 21 = .ok (.lstore 4, 2) := by decide +kernel
theorem d_K_mix_23 : decode b_K_mix 23 = .ok (.lload 4, 2) := by decide +kernel
theorem d_K_mix_25 : decode b_K_mix 25 = .ok (.ldc2_w 189, 3) := by decide +kernel
theorem d_K_mix_28 : decode b_K_mix 28 = .ok (.lmul, 1) := by decide +kernel
theorem d_K_mix_29 : decode b_K_mix 29 = .ok (.lstore 4, 2) := by decide +kernel
theorem d_K_mix_31 : decode b_K_mix 31 = .ok (.lload 4, 2) := by decide +kernel
theorem d_K_mix_33 : decode b_K_mix 33 = .ok (.lload 4, 2) := by decide +kernel
theorem d_K_mix_35 : decode b_K_mix 35 = .ok (.bipush 28, 2) := by decide +kernel
theorem d_K_mix_37 : decode b_K_mix 37 = .ok (.lushr, 1) := by decide +kernel
theorem d_K_mix_38 : decode b_K_mix 38 = .ok (.lxor, 1) := by decide +kernel
theorem d_K_mix_39 : decode b_K_mix 39 = .ok (.lreturn, 1) := by decide +kernel
theorem d_K_challenge_0 : decode b_K_challenge 0 = .ok (.lload_n 0, 1) := by decide +kernel
theorem d_K_challenge_1 : decode b_K_challenge 1 = .ok (.ldc2_w 110, 3) := by decide +kernel
theorem d_K_challenge_4 : decode b_K_challenge 4 = .ok (.lmul, 1) := by decide +kernel
theorem d_K_challenge_5 : decode b_K_challenge 5 = .ok (.lload_n 2, 1) := by decide +kernel
theorem d_K_challenge_6 : decode b_K_challenge 6 = .ok (.ladd, 1) := by decide +kernel
theorem d_K_challenge_7 : decode b_K_challenge 7 = .ok (.ldc2_w 193, 3) := by decide +kernel
theorem d_K_challenge_10 : decode b_K_challenge 10 = .ok (.invokestatic 95, 3) := by decide +kernel
theorem d_K_challenge_13 : decode b_K_challenge 13 = .ok (.lload 4, 2) := by decide +kernel
theorem d_K_challenge_15 : decode b_K_challenge 15 = .ok (.invokestatic 95, 3) := by decide +kernel
theorem d_K_challenge_18 : decode b_K_challenge 18 = .ok (.bipush 33, 2) := by decide +kernel
theorem d_K_challenge_20 : decode b_K_challenge 20 = .ok (.lushr, 1) := by decide +kernel
theorem d_K_challenge_21 : decode b_K_challenge 21 = .ok (.ldc2_w 101, 3) := by decide +kernel
theorem d_K_challenge_24 : decode b_K_challenge 24 = .ok (.lrem, 1) := by decide +kernel
theorem d_K_challenge_25 : decode b_K_challenge 25 = .ok (.lreturn, 1) := by decide +kernel
theorem d_C_sumOfMultiples_0 : decode b_C_sumOfMultiples 0 = .ok (.lload_n 0, 1) := by decide +kernel
theorem d_C_sumOfMultiples_1 : decode b_C_sumOfMultiples 1 = .ok (.lload_n 2, 1) := by decide +kernel
theorem d_C_sumOfMultiples_2 : decode b_C_sumOfMultiples 2 = .ok (.invokestatic 57, 3) := by decide +kernel
theorem d_C_sumOfMultiples_5 : decode b_C_sumOfMultiples 5 = .ok (.lload 4, 2) := by decide +kernel
theorem d_C_sumOfMultiples_7 : decode b_C_sumOfMultiples 7 = .ok (.lload 6, 2) := by decide +kernel
theorem d_C_sumOfMultiples_9 : decode b_C_sumOfMultiples 9 = .ok (.invokestatic 57, 3) := by decide +kernel
theorem d_C_sumOfMultiples_12 : decode b_C_sumOfMultiples 12 = .ok (.invokestatic 54, 3) := by decide +kernel
theorem d_C_sumOfMultiples_15 : decode b_C_sumOfMultiples 15 = .ok (.lreturn, 1) := by decide +kernel
theorem d_C_multiple_0 : decode b_C_multiple 0 = .ok (.lconst 0, 1) := by decide +kernel
theorem d_C_multiple_1 : decode b_C_multiple 1 = .ok (.lstore 4, 2) := by decide +kernel
theorem d_C_multiple_3 : decode b_C_multiple 3 = .ok (.bipush 29, 2) := by decide +kernel
theorem d_C_multiple_5 : decode b_C_multiple 5 = .ok (.istore 6, 2) := by decide +kernel
theorem d_C_multiple_7 : decode b_C_multiple 7 = .ok (.iload 6, 2) := by decide +kernel
theorem d_C_multiple_9 : decode b_C_multiple 9 = .ok (.ifCond .lt 37, 3) := by decide +kernel
theorem d_C_multiple_12 : decode b_C_multiple 12 = .ok (.lload 4, 2) := by decide +kernel
theorem d_C_multiple_14 : decode b_C_multiple 14 = .ok (.lload 4, 2) := by decide +kernel
theorem d_C_multiple_16 : decode b_C_multiple 16 = .ok (.invokestatic 54, 3) := by decide +kernel
theorem d_C_multiple_19 : decode b_C_multiple 19 = .ok (.lstore 4, 2) := by decide +kernel
theorem d_C_multiple_21 : decode b_C_multiple 21 = .ok (.lload_n 0, 1) := by decide +kernel
theorem d_C_multiple_22 : decode b_C_multiple 22 = .ok (.iload 6, 2) := by decide +kernel
theorem d_C_multiple_24 : decode b_C_multiple 24 = .ok (.lushr, 1) := by decide +kernel
theorem d_C_multiple_25 : decode b_C_multiple 25 = .ok (.lconst 1, 1) := by decide +kernel
theorem d_C_multiple_26 : decode b_C_multiple 26 = .ok (.land, 1) := by decide +kernel
theorem d_C_multiple_27 : decode b_C_multiple 27 = .ok (.lconst 1, 1) := by decide +kernel
theorem d_C_multiple_28 : decode b_C_multiple 28 = .ok (.lcmp, 1) := by decide +kernel
theorem d_C_multiple_29 : decode b_C_multiple 29 = .ok (.ifCond .ne 11, 3) := by decide +kernel
theorem d_C_multiple_32 : decode b_C_multiple 32 = .ok (.lload 4, 2) := by decide +kernel
theorem d_C_multiple_34 : decode b_C_multiple 34 = .ok (.lload_n 2, 1) := by decide +kernel
theorem d_C_multiple_35 : decode b_C_multiple 35 = .ok (.invokestatic 54, 3) := by decide +kernel
theorem d_C_multiple_38 : decode b_C_multiple 38 = .ok (.lstore 4, 2) := by decide +kernel
theorem d_C_multiple_40 : decode b_C_multiple 40 = .ok (.iinc 6 (-1), 3) := by decide +kernel
theorem d_C_multiple_43 : decode b_C_multiple 43 = .ok (.goto (-36), 3) := by decide +kernel
theorem d_C_multiple_46 : decode b_C_multiple 46 = .ok (.lload 4, 2) := by decide +kernel
theorem d_C_multiple_48 : decode b_C_multiple 48 = .ok (.lreturn, 1) := by decide +kernel
theorem d_C_sum_0 : decode b_C_sum 0 = .ok (.lload_n 0, 1) := by decide +kernel
theorem d_C_sum_1 : decode b_C_sum 1 = .ok (.lconst 0, 1) := by decide +kernel
theorem d_C_sum_2 : decode b_C_sum 2 = .ok (.lcmp, 1) := by decide +kernel
theorem d_C_sum_3 : decode b_C_sum 3 = .ok (.ifCond .ne 5, 3) := by decide +kernel
theorem d_C_sum_6 : decode b_C_sum 6 = .ok (.lload_n 2, 1) := by decide +kernel
theorem d_C_sum_7 : decode b_C_sum 7 = .ok (.lreturn, 1) := by decide +kernel
theorem d_C_sum_8 : decode b_C_sum 8 = .ok (.lload_n 2, 1) := by decide +kernel
theorem d_C_sum_9 : decode b_C_sum 9 = .ok (.lconst 0, 1) := by decide +kernel
theorem d_C_sum_10 : decode b_C_sum 10 = .ok (.lcmp, 1) := by decide +kernel
theorem d_C_sum_11 : decode b_C_sum 11 = .ok (.ifCond .ne 5, 3) := by decide +kernel
theorem d_C_sum_14 : decode b_C_sum 14 = .ok (.lload_n 0, 1) := by decide +kernel
theorem d_C_sum_15 : decode b_C_sum 15 = .ok (.lreturn, 1) := by decide +kernel
theorem d_C_sum_16 : decode b_C_sum 16 = .ok (.lload_n 0, 1) := by decide +kernel
theorem d_C_sum_17 : decode b_C_sum 17 = .ok (.invokestatic 15, 3) := by decide +kernel
theorem d_C_sum_20 : decode b_C_sum 20 = .ok (.lstore 4, 2) := by decide +kernel
theorem d_C_sum_22 : decode b_C_sum 22 = .ok (.lload_n 0, 1) := by decide +kernel
theorem d_C_sum_23 : decode b_C_sum 23 = .ok (.invokestatic 23, 3) := by decide +kernel
theorem d_C_sum_26 : decode b_C_sum 26 = .ok (.lstore 6, 2) := by decide +kernel
theorem d_C_sum_28 : decode b_C_sum 28 = .ok (.lload_n 2, 1) := by decide +kernel
theorem d_C_sum_29 : decode b_C_sum 29 = .ok (.invokestatic 15, 3) := by decide +kernel
theorem d_C_sum_32 : decode b_C_sum 32 = .ok (.lstore 8, 2) := by decide +kernel
theorem d_C_sum_34 : decode b_C_sum 34 = .ok (.lload 4, 2) := by decide +kernel
theorem d_C_sum_36 : decode b_C_sum 36 = .ok (.lload 8, 2) := by decide +kernel
theorem d_C_sum_38 : decode b_C_sum 38 = .ok (.lcmp, 1) := by decide +kernel
theorem d_C_sum_39 : decode b_C_sum 39 = .ok (.ifCond .ne 11, 3) := by decide +kernel
theorem d_C_sum_42 : decode b_C_sum 42 = .ok (.lload_n 0, 1) := by decide +kernel
theorem d_C_sum_43 : decode b_C_sum 43 = .ok (.lload_n 2, 1) := by decide +kernel
theorem d_C_sum_44 : decode b_C_sum 44 = .ok (.lcmp, 1) := by decide +kernel
theorem d_C_sum_45 : decode b_C_sum 45 = .ok (.ifCond .eq 5, 3) := by decide +kernel
theorem d_C_sum_48 : decode b_C_sum 48 = .ok (.lconst 0, 1) := by decide +kernel
theorem d_C_sum_49 : decode b_C_sum 49 = .ok (.lreturn, 1) := by decide +kernel
theorem d_C_sum_50 : decode b_C_sum 50 = .ok (.lload_n 0, 1) := by decide +kernel
theorem d_C_sum_51 : decode b_C_sum 51 = .ok (.lload_n 2, 1) := by decide +kernel
theorem d_C_sum_52 : decode b_C_sum 52 = .ok (.lcmp, 1) := by decide +kernel
theorem d_C_sum_53 : decode b_C_sum 53 = .ok (.ifCond .ne 24, 3) := by decide +kernel
theorem d_C_sum_56 : decode b_C_sum 56 = .ok (.ldc2_w 41, 3) := by decide +kernel
theorem d_C_sum_59 : decode b_C_sum 59 = .ok (.lload 4, 2) := by decide +kernel
theorem d_C_sum_61 : decode b_C_sum 61 = .ok (.lmul, 1) := by decide +kernel
theorem d_C_sum_62 : decode b_C_sum 62 = .ok (.lload 4, 2) := by decide +kernel
theorem d_C_sum_64 : decode b_C_sum 64 = .ok (.lmul, 1) := by decide +kernel
theorem d_C_sum_65 : decode b_C_sum 65 = .ok (.ldc2_w 11, 3) := by decide +kernel
theorem d_C_sum_68 : decode b_C_sum 68 = .ok (.lload 6, 2) := by decide +kernel
theorem d_C_sum_70 : decode b_C_sum 70 = .ok (.lmul, 1) := by decide +kernel
theorem d_C_sum_71 : decode b_C_sum 71 = .ok (.invokestatic 47, 3) := by decide +kernel
theorem d_C_sum_74 : decode b_C_sum 74 = .ok (.goto 18, 3) := by decide +kernel
theorem d_C_sum_77 : decode b_C_sum 77 = .ok (.lload_n 2, 1) := by decide +kernel
theorem d_C_sum_78 : decode b_C_sum 78 = .ok (.invokestatic 23, 3) := by decide +kernel
theorem d_C_sum_81 : decode b_C_sum 81 = .ok (.lload 6, 2) := by decide +kernel
theorem d_C_sum_83 : decode b_C_sum 83 = .ok (.lsub, 1) := by decide +kernel
theorem d_C_sum_84 : decode b_C_sum 84 = .ok (.lload 8, 2) := by decide +kernel
theorem d_C_sum_86 : decode b_C_sum 86 = .ok (.lload 4, 2) := by decide +kernel
theorem d_C_sum_88 : decode b_C_sum 88 = .ok (.lsub, 1) := by decide +kernel
theorem d_C_sum_89 : decode b_C_sum 89 = .ok (.invokestatic 47, 3) := by decide +kernel
theorem d_C_sum_92 : decode b_C_sum 92 = .ok (.lstore 10, 2) := by decide +kernel
theorem d_C_sum_94 : decode b_C_sum 94 = .ok (.lload 10, 2) := by decide +kernel
theorem d_C_sum_96 : decode b_C_sum 96 = .ok (.lload 10, 2) := by decide +kernel
theorem d_C_sum_98 : decode b_C_sum 98 = .ok (.lmul, 1) := by decide +kernel
theorem d_C_sum_99 : decode b_C_sum 99 = .ok (.lload 4, 2) := by decide +kernel
theorem d_C_sum_101 : decode b_C_sum 101 = .ok (.lsub, 1) := by decide +kernel
theorem d_C_sum_102 : decode b_C_sum 102 = .ok (.lload 8, 2) := by decide +kernel
theorem d_C_sum_104 : decode b_C_sum 104 = .ok (.lsub, 1) := by decide +kernel
theorem d_C_sum_105 : decode b_C_sum 105 = .ok (.invokestatic 51, 3) := by decide +kernel
theorem d_C_sum_108 : decode b_C_sum 108 = .ok (.lstore 12, 2) := by decide +kernel
theorem d_C_sum_110 : decode b_C_sum 110 = .ok (.lload 12, 2) := by decide +kernel
theorem d_C_sum_112 : decode b_C_sum 112 = .ok (.ldc2_w 9, 3) := by decide +kernel
theorem d_C_sum_115 : decode b_C_sum 115 = .ok (.lmul, 1) := by decide +kernel
theorem d_C_sum_116 : decode b_C_sum 116 = .ok (.lload 10, 2) := by decide +kernel
theorem d_C_sum_118 : decode b_C_sum 118 = .ok (.lload 4, 2) := by decide +kernel
theorem d_C_sum_120 : decode b_C_sum 120 = .ok (.lload 12, 2) := by decide +kernel
theorem d_C_sum_122 : decode b_C_sum 122 = .ok (.lsub, 1) := by decide +kernel
theorem d_C_sum_123 : decode b_C_sum 123 = .ok (.lmul, 1) := by decide +kernel
theorem d_C_sum_124 : decode b_C_sum 124 = .ok (.lload 6, 2) := by decide +kernel
theorem d_C_sum_126 : decode b_C_sum 126 = .ok (.lsub, 1) := by decide +kernel
theorem d_C_sum_127 : decode b_C_sum 127 = .ok (.invokestatic 51, 3) := by decide +kernel
theorem d_C_sum_130 : decode b_C_sum 130 = .ok (.ladd, 1) := by decide +kernel
theorem d_C_sum_131 : decode b_C_sum 131 = .ok (.lreturn, 1) := by decide +kernel
theorem d_F_quotient_0 : decode b_F_quotient 0 = .ok (.lload_n 0, 1) := by decide +kernel
theorem d_F_quotient_1 : decode b_F_quotient 1 = .ok (.invokestatic 11, 3) := by decide +kernel
theorem d_F_quotient_4 : decode b_F_quotient 4 = .ok (.lload_n 2, 1) := by decide +kernel
theorem d_F_quotient_5 : decode b_F_quotient 5 = .ok (.invokestatic 11, 3) := by decide +kernel
theorem d_F_quotient_8 : decode b_F_quotient 8 = .ok (.ldc2_w 9, 3) := by decide +kernel
theorem d_F_quotient_11 : decode b_F_quotient 11 = .ok (.invokestatic 15, 3) := by decide +kernel
theorem d_F_quotient_14 : decode b_F_quotient 14 = .ok (.lmul, 1) := by decide +kernel
theorem d_F_quotient_15 : decode b_F_quotient 15 = .ok (.ldc2_w 9, 3) := by decide +kernel
theorem d_F_quotient_18 : decode b_F_quotient 18 = .ok (.lrem, 1) := by decide +kernel
theorem d_F_quotient_19 : decode b_F_quotient 19 = .ok (.lreturn, 1) := by decide +kernel
theorem d_F_reduced_0 : decode b_F_reduced 0 = .ok (.lload_n 0, 1) := by decide +kernel
theorem d_F_reduced_1 : decode b_F_reduced 1 = .ok (.ldc2_w 9, 3) := by decide +kernel
theorem d_F_reduced_4 : decode b_F_reduced 4 = .ok (.lrem, 1) := by decide +kernel
theorem d_F_reduced_5 : decode b_F_reduced 5 = .ok (.lstore_n 2, 1) := by decide +kernel
theorem d_F_reduced_6 : decode b_F_reduced 6 = .ok (.lload_n 2, 1) := by decide +kernel
theorem d_F_reduced_7 : decode b_F_reduced 7 = .ok (.lconst 0, 1) := by decide +kernel
theorem d_F_reduced_8 : decode b_F_reduced 8 = .ok (.lcmp, 1) := by decide +kernel
theorem d_F_reduced_9 : decode b_F_reduced 9 = .ok (.ifCond .ge 11, 3) := by decide +kernel
theorem d_F_reduced_12 : decode b_F_reduced 12 = .ok (.lload_n 2, 1) := by decide +kernel
theorem d_F_reduced_13 : decode b_F_reduced 13 = .ok (.ldc2_w 9, 3) := by decide +kernel
theorem d_F_reduced_16 : decode b_F_reduced 16 = .ok (.ladd, 1) := by decide +kernel
theorem d_F_reduced_17 : decode b_F_reduced 17 = .ok (.goto 4, 3) := by decide +kernel
theorem d_F_reduced_20 : decode b_F_reduced 20 = .ok (.lload_n 2, 1) := by decide +kernel
theorem d_F_reduced_21 : decode b_F_reduced 21 = .ok (.lreturn, 1) := by decide +kernel
theorem d_K_inverse_0 : decode b_K_inverse 0 = .ok (.lload_n 2, 1) := by decide +kernel
theorem d_K_inverse_1 : decode b_K_inverse 1 = .ok (.lstore 4, 2) := by decide +kernel
theorem d_K_inverse_3 : decode b_K_inverse 3 = .ok (.lload_n 0, 1) := by decide +kernel
theorem d_K_inverse_4 : decode b_K_inverse 4 = .ok (.lstore 6, 2) := by decide +kernel
theorem d_K_inverse_6 : decode b_K_inverse 6 = .ok (.lconst 0, 1) := by decide +kernel
theorem d_K_inverse_7 : decode b_K_inverse 7 = .ok (.lstore 8, 2) := by decide +kernel
theorem d_K_inverse_9 : decode b_K_inverse 9 = .ok (.lconst 1, 1) := by decide +kernel
theorem d_K_inverse_10 : decode b_K_inverse 10 = .ok (.lstore 10, 2) := by decide +kernel
theorem d_K_inverse_12 : decode b_K_inverse 12 = .ok (.iconst 0, 1) := by decide +kernel
theorem d_K_inverse_13 : decode b_K_inverse 13 = .ok (.istore 12, 2) := by decide +kernel
theorem d_K_inverse_15 : decode b_K_inverse 15 = .ok (.iload 12, 2) := by decide +kernel
theorem d_K_inverse_17 : decode b_K_inverse 17 = .ok (.bipush 64, 2) := by decide +kernel
theorem d_K_inverse_19 : decode b_K_inverse 19 = .ok (.if_icmp .ge 59, 3) := by decide +kernel
theorem d_K_inverse_22 : decode b_K_inverse 22 = .ok (.lload 6, 2) := by decide +kernel
theorem d_K_inverse_24 : decode b_K_inverse 24 = .ok (.lconst 0, 1) := by decide +kernel
theorem d_K_inverse_25 : decode b_K_inverse 25 = .ok (.lcmp, 1) := by decide +kernel
theorem d_K_inverse_26 : decode b_K_inverse 26 = .ok (.ifCond .eq 52, 3) := by decide +kernel
theorem d_K_inverse_29 : decode b_K_inverse 29 = .ok (.lload 4, 2) := by decide +kernel
theorem d_K_inverse_31 : decode b_K_inverse 31 = .ok (.lload 6, 2) := by decide +kernel
theorem d_K_inverse_33 : decode b_K_inverse 33 = .ok (.ldiv, 1) := by decide +kernel
theorem d_K_inverse_34 : decode b_K_inverse 34 = .ok (.lstore 13, 2) := by decide +kernel
theorem d_K_inverse_36 : decode b_K_inverse 36 = .ok (.lload 4, 2) := by decide +kernel
theorem d_K_inverse_38 : decode b_K_inverse 38 = .ok (.lload 13, 2) := by decide +kernel
theorem d_K_inverse_40 : decode b_K_inverse 40 = .ok (.lload 6, 2) := by decide +kernel
theorem d_K_inverse_42 : decode b_K_inverse 42 = .ok (.lmul, 1) := by decide +kernel
theorem d_K_inverse_43 : decode b_K_inverse 43 = .ok (.lsub, 1) := by decide +kernel
theorem d_K_inverse_44 : decode b_K_inverse 44 = .ok (.lstore 15, 2) := by decide +kernel
theorem d_K_inverse_46 : decode b_K_inverse 46 = .ok (.lload 8, 2) := by decide +kernel
theorem d_K_inverse_48 : decode b_K_inverse 48 = .ok (.lload 13, 2) := by decide +kernel
theorem d_K_inverse_50 : decode b_K_inverse 50 = .ok (.lload 10, 2) := by decide +kernel
theorem d_K_inverse_52 : decode b_K_inverse 52 = .ok (.lmul, 1) := by decide +kernel
theorem d_K_inverse_53 : decode b_K_inverse 53 = .ok (.lsub, 1) := by decide +kernel
theorem d_K_inverse_54 : decode b_K_inverse 54 = .ok (.lstore 17, 2) := by decide +kernel
theorem d_K_inverse_56 : decode b_K_inverse 56 = .ok (.lload 6, 2) := by decide +kernel
theorem d_K_inverse_58 : decode b_K_inverse 58 = .ok (.lstore 4, 2) := by decide +kernel
theorem d_K_inverse_60 : decode b_K_inverse 60 = .ok (.lload 15, 2) := by decide +kernel
theorem d_K_inverse_62 : decode b_K_inverse 62 = .ok (.lstore 6, 2) := by decide +kernel
theorem d_K_inverse_64 : decode b_K_inverse 64 = .ok (.lload 10, 2) := by decide +kernel
theorem d_K_inverse_66 : decode b_K_inverse 66 = .ok (.lstore 8, 2) := by decide +kernel
theorem d_K_inverse_68 : decode b_K_inverse 68 = .ok (.lload 17, 2) := by decide +kernel
theorem d_K_inverse_70 : decode b_K_inverse 70 = .ok (.lstore 10, 2) := by decide +kernel
theorem d_K_inverse_72 : decode b_K_inverse 72 = .ok (.iinc 12 1, 3) := by decide +kernel
theorem d_K_inverse_75 : decode b_K_inverse 75 = .ok (.goto (-60), 3) := by decide +kernel
theorem d_K_inverse_78 : decode b_K_inverse 78 = .ok (.lload 8, 2) := by decide +kernel
theorem d_K_inverse_80 : decode b_K_inverse 80 = .ok (.lconst 0, 1) := by decide +kernel
theorem d_K_inverse_81 : decode b_K_inverse 81 = .ok (.lcmp, 1) := by decide +kernel
theorem d_K_inverse_82 : decode b_K_inverse 82 = .ok (.ifCond .ge 10, 3) := by decide +kernel
theorem d_K_inverse_85 : decode b_K_inverse 85 = .ok (.lload 8, 2) := by decide +kernel
theorem d_K_inverse_87 : decode b_K_inverse 87 = .ok (.lload_n 2, 1) := by decide +kernel
theorem d_K_inverse_88 : decode b_K_inverse 88 = .ok (.ladd, 1) := by decide +kernel
theorem d_K_inverse_89 : decode b_K_inverse 89 = .ok (.goto 5, 3) := by decide +kernel
theorem d_K_inverse_92 : decode b_K_inverse 92 = .ok (.lload 8, 2) := by decide +kernel
theorem d_K_inverse_94 : decode b_K_inverse 94 = .ok (.lreturn, 1) := by decide +kernel
theorem d_O_length_0 : decode b_O_length 0 = .ok (.bipush 6, 2) := by decide +kernel
theorem d_O_length_2 : decode b_O_length 2 = .ok (.iload_n 0, 1) := by decide +kernel
theorem d_O_length_3 : decode b_O_length 3 = .ok (.invokestatic 11, 3) := by decide +kernel
theorem d_O_length_6 : decode b_O_length 6 = .ok (.iadd, 1) := by decide +kernel
theorem d_O_length_7 : decode b_O_length 7 = .ok (.iload_n 1, 1) := by decide +kernel
theorem d_O_length_8 : decode b_O_length 8 = .ok (.invokestatic 11, 3) := by decide +kernel
theorem d_O_length_11 : decode b_O_length 11 = .ok (.iadd, 1) := by decide +kernel
theorem d_O_length_12 : decode b_O_length 12 = .ok (.ireturn, 1) := by decide +kernel
theorem d_O_bytesOf_0 : decode b_O_bytesOf 0 = .ok (.iload_n 0, 1) := by decide +kernel
theorem d_O_bytesOf_1 : decode b_O_bytesOf 1 = .ok (.sipush 128, 3) := by decide +kernel
theorem d_O_bytesOf_4 : decode b_O_bytesOf 4 = .ok (.if_icmp .ge 5, 3) := by decide +kernel
theorem d_O_bytesOf_7 : decode b_O_bytesOf 7 = .ok (.iconst 1, 1) := by decide +kernel
theorem d_O_bytesOf_8 : decode b_O_bytesOf 8 = .ok (.ireturn, 1) := by decide +kernel
theorem d_O_bytesOf_9 : decode b_O_bytesOf 9 = .ok (.iload_n 0, 1) := by decide +kernel
theorem d_O_bytesOf_10 : decode b_O_bytesOf 10 = .ok (.ldc 7, 2) := by decide +kernel
theorem d_O_bytesOf_12 : decode b_O_bytesOf 12 = .ok (.if_icmp .ge 5, 3) := by decide +kernel
theorem d_O_bytesOf_15 : decode b_O_bytesOf 15 = .ok (.iconst 2, 1) := by decide +kernel
theorem d_O_bytesOf_16 : decode b_O_bytesOf 16 = .ok (.ireturn, 1) := by decide +kernel
theorem d_O_bytesOf_17 : decode b_O_bytesOf 17 = .ok (.iload_n 0, 1) := by decide +kernel
theorem d_O_bytesOf_18 : decode b_O_bytesOf 18 = .ok (.ldc 8, 2) := by decide +kernel
theorem d_O_bytesOf_20 : decode b_O_bytesOf 20 = .ok (.if_icmp .ge 7, 3) := by decide +kernel
theorem d_O_bytesOf_23 : decode b_O_bytesOf 23 = .ok (.iconst 3, 1) := by decide +kernel
theorem d_O_bytesOf_24 : decode b_O_bytesOf 24 = .ok (.goto 4, 3) := by decide +kernel
theorem d_O_bytesOf_27 : decode b_O_bytesOf 27 = .ok (.iconst 4, 1) := by decide +kernel
theorem d_O_bytesOf_28 : decode b_O_bytesOf 28 = .ok (.ireturn, 1) := by decide +kernel
theorem d_O_byteAt_0 : decode b_O_byteAt 0 = .ok (.iload_n 2, 1) := by decide +kernel
theorem d_O_byteAt_1 : decode b_O_byteAt 1 = .ok (.ifCond .ne 6, 3) := by decide +kernel
theorem d_O_byteAt_4 : decode b_O_byteAt 4 = .ok (.bipush 48, 2) := by decide +kernel
theorem d_O_byteAt_6 : decode b_O_byteAt 6 = .ok (.ireturn, 1) := by decide +kernel
theorem d_O_byteAt_7 : decode b_O_byteAt 7 = .ok (.iload_n 2, 1) := by decide +kernel
theorem d_O_byteAt_8 : decode b_O_byteAt 8 = .ok (.iconst 1, 1) := by decide +kernel
theorem d_O_byteAt_9 : decode b_O_byteAt 9 = .ok (.if_icmp .ne 11, 3) := by decide +kernel
theorem d_O_byteAt_12 : decode b_O_byteAt 12 = .ok (.iload_n 0, 1) := by decide +kernel
theorem d_O_byteAt_13 : decode b_O_byteAt 13 = .ok (.iload_n 1, 1) := by decide +kernel
theorem d_O_byteAt_14 : decode b_O_byteAt 14 = .ok (.invokestatic 15, 3) := by decide +kernel
theorem d_O_byteAt_17 : decode b_O_byteAt 17 = .ok (.iconst 2, 1) := by decide +kernel
theorem d_O_byteAt_18 : decode b_O_byteAt 18 = .ok (.isub, 1) := by decide +kernel
theorem d_O_byteAt_19 : decode b_O_byteAt 19 = .ok (.ireturn, 1) := by decide +kernel
theorem d_O_byteAt_20 : decode b_O_byteAt 20 = .ok (.iconst 4, 1) := by decide +kernel
theorem d_O_byteAt_21 : decode b_O_byteAt 21 = .ok (.iload_n 0, 1) := by decide +kernel
theorem d_O_byteAt_22 : decode b_O_byteAt 22 = .ok (.invokestatic 11, 3) := by decide +kernel
theorem d_O_byteAt_25 : decode b_O_byteAt 25 = .ok (.iadd, 1) := by decide +kernel
theorem d_O_byteAt_26 : decode b_O_byteAt 26 = .ok (.istore_n 3, 1) := by decide +kernel
theorem d_O_byteAt_27 : decode b_O_byteAt 27 = .ok (.iload_n 2, 1) := by decide +kernel
theorem d_O_byteAt_28 : decode b_O_byteAt 28 = .ok (.iload_n 3, 1) := by decide +kernel
theorem d_O_byteAt_29 : decode b_O_byteAt 29 = .ok (.if_icmp .ge 13, 3) := by decide +kernel
theorem d_O_byteAt_32 : decode b_O_byteAt 32 = .ok (.iload_n 0, 1) := by decide +kernel
theorem d_O_byteAt_33 : decode b_O_byteAt 33 = .ok (.iload_n 2, 1) := by decide +kernel
theorem d_O_byteAt_34 : decode b_O_byteAt 34 = .ok (.iconst 2, 1) := by decide +kernel
theorem d_O_byteAt_35 : decode b_O_byteAt 35 = .ok (.isub, 1) := by decide +kernel
theorem d_O_byteAt_36 : decode b_O_byteAt 36 = .ok (.invokestatic 19, 3) := by decide +kernel
theorem d_O_byteAt_39 : decode b_O_byteAt 39 = .ok (.goto 10, 3) := by decide +kernel
theorem d_O_byteAt_42 : decode b_O_byteAt 42 = .ok (.iload_n 1, 1) := by decide +kernel
theorem d_O_byteAt_43 : decode b_O_byteAt 43 = .ok (.iload_n 2, 1) := by decide +kernel
theorem d_O_byteAt_44 : decode b_O_byteAt 44 = .ok (.iload_n 3, 1) := by decide +kernel
theorem d_O_byteAt_45 : decode b_O_byteAt 45 = .ok (.isub, 1) := by decide +kernel
theorem d_O_byteAt_46 : decode b_O_byteAt 46 = .ok (.invokestatic 19, 3) := by decide +kernel
theorem d_O_byteAt_49 : decode b_O_byteAt 49 = .ok (.ireturn, 1) := by decide +kernel
theorem d_O_numberByteAt_0 : decode b_O_numberByteAt 0 = .ok (.iload_n 1, 1) := by decide +kernel
theorem d_O_numberByteAt_1 : decode b_O_numberByteAt 1 = .ok (.ifCond .ne 5, 3) := by decide +kernel
theorem d_O_numberByteAt_4 : decode b_O_numberByteAt 4 = .ok (.iconst 2, 1) := by decide +kernel
theorem d_O_numberByteAt_5 : decode b_O_numberByteAt 5 = .ok (.ireturn, 1) := by decide +kernel
theorem d_O_numberByteAt_6 : decode b_O_numberByteAt 6 = .ok (.iload_n 0, 1) := by decide +kernel
theorem d_O_numberByteAt_7 : decode b_O_numberByteAt 7 = .ok (.invokestatic 11, 3) := by decide +kernel
theorem d_O_numberByteAt_10 : decode b_O_numberByteAt 10 = .ok (.istore_n 2, 1) := by decide +kernel
theorem d_O_numberByteAt_11 : decode b_O_numberByteAt 11 = .ok (.iload_n 1, 1) := by decide +kernel
theorem d_O_numberByteAt_12 : decode b_O_numberByteAt 12 = .ok (.iconst 1, 1) := by decide +kernel
theorem d_O_numberByteAt_13 : decode b_O_numberByteAt 13 = .ok (.if_icmp .ne 7, 3) := by decide +kernel
theorem d_O_numberByteAt_16 : decode b_O_numberByteAt 16 = .ok (.iload_n 2, 1) := by decide +kernel
theorem d_O_numberByteAt_17 : decode b_O_numberByteAt 17 = .ok (.goto 17, 3) := by decide +kernel
theorem d_O_numberByteAt_20 : decode b_O_numberByteAt 20 = .ok (.iload_n 0, 1) := by decide +kernel
theorem d_O_numberByteAt_21 : decode b_O_numberByteAt 21 = .ok (.bipush 8, 2) := by decide +kernel
theorem d_O_numberByteAt_23 : decode b_O_numberByteAt 23 = .ok (.iload_n 2, 1) := by decide +kernel
theorem d_O_numberByteAt_24 : decode b_O_numberByteAt 24 = .ok (.iconst 1, 1) := by decide +kernel
theorem d_O_numberByteAt_25 : decode b_O_numberByteAt 25 = .ok (.iadd, 1) := by decide +kernel
theorem d_O_numberByteAt_26 : decode b_O_numberByteAt 26 = .ok (.iload_n 1, 1) := by decide +kernel
theorem d_O_numberByteAt_27 : decode b_O_numberByteAt 27 = .ok (.isub, 1) := by decide +kernel
theorem d_O_numberByteAt_28 : decode b_O_numberByteAt 28 = .ok (.imul, 1) := by decide +kernel
theorem d_O_numberByteAt_29 : decode b_O_numberByteAt 29 = .ok (.iushr, 1) := by decide +kernel
theorem d_O_numberByteAt_30 : decode b_O_numberByteAt 30 = .ok (.sipush 255, 3) := by decide +kernel
theorem d_O_numberByteAt_33 : decode b_O_numberByteAt 33 = .ok (.iand, 1) := by decide +kernel
theorem d_O_numberByteAt_34 : decode b_O_numberByteAt 34 = .ok (.ireturn, 1) := by decide +kernel
theorem d_S_isUnit_0 : decode b_S_isUnit 0 = .ok (.lload_n 0, 1) := by decide +kernel
theorem d_S_isUnit_1 : decode b_S_isUnit 1 = .ok (.lconst 1, 1) := by decide +kernel
theorem d_S_isUnit_2 : decode b_S_isUnit 2 = .ok (.lcmp, 1) := by decide +kernel
theorem d_S_isUnit_3 : decode b_S_isUnit 3 = .ok (.ifCond .lt 15, 3) := by decide +kernel
theorem d_S_isUnit_6 : decode b_S_isUnit 6 = .ok (.lload_n 0, 1) := by decide +kernel
theorem d_S_isUnit_7 : decode b_S_isUnit 7 = .ok (.ldc2_w 9, 3) := by decide +kernel
theorem d_S_isUnit_10 : decode b_S_isUnit 10 = .ok (.lcmp, 1) := by decide +kernel
theorem d_S_isUnit_11 : decode b_S_isUnit 11 = .ok (.ifCond .ge 7, 3) := by decide +kernel
theorem d_S_isUnit_14 : decode b_S_isUnit 14 = .ok (.iconst 1, 1) := by decide +kernel
theorem d_S_isUnit_15 : decode b_S_isUnit 15 = .ok (.goto 4, 3) := by decide +kernel
theorem d_S_isUnit_18 : decode b_S_isUnit 18 = .ok (.iconst 0, 1) := by decide +kernel
theorem d_S_isUnit_19 : decode b_S_isUnit 19 = .ok (.ireturn, 1) := by decide +kernel
theorem d_C_fromCode_0 : decode b_C_fromCode 0 = .ok (.lload_n 0, 1) := by decide +kernel
theorem d_C_fromCode_1 : decode b_C_fromCode 1 = .ok (.bipush 32, 2) := by decide +kernel
theorem d_C_fromCode_3 : decode b_C_fromCode 3 = .ok (.lushr, 1) := by decide +kernel
theorem d_C_fromCode_4 : decode b_C_fromCode 4 = .ok (.lstore_n 2, 1) := by decide +kernel
theorem d_C_fromCode_5 : decode b_C_fromCode 5 = .ok (.lload_n 2, 1) := by decide +kernel
theorem d_C_fromCode_6 : decode b_C_fromCode 6 = .ok (.ldc2_w 11, 3) := by decide +kernel
theorem d_C_fromCode_9 : decode b_C_fromCode 9 = .ok (.lcmp, 1) := by decide +kernel
theorem d_C_fromCode_10 : decode b_C_fromCode 10 = .ok (.ifCond .eq 11, 3) := by decide +kernel
theorem d_C_fromCode_13 : decode b_C_fromCode 13 = .ok (.lload_n 2, 1) := by decide +kernel
theorem d_C_fromCode_14 : decode b_C_fromCode 14 = .ok (.ldc2_w 41, 3) := by decide +kernel
theorem d_C_fromCode_17 : decode b_C_fromCode 17 = .ok (.lcmp, 1) := by decide +kernel
theorem d_C_fromCode_18 : decode b_C_fromCode 18 = .ok (.ifCond .ne 27, 3) := by decide +kernel
theorem d_C_fromCode_21 : decode b_C_fromCode 21 = .ok (.lload_n 0, 1) := by decide +kernel
theorem d_C_fromCode_22 : decode b_C_fromCode 22 = .ok (.ldc2_w 9, 3) := by decide +kernel
theorem d_C_fromCode_25 : decode b_C_fromCode 25 = .ok (.lrem, 1) := by decide +kernel
theorem d_C_fromCode_26 : decode b_C_fromCode 26 = .ok (.lload_n 2, 1) := by decide +kernel
theorem d_C_fromCode_27 : decode b_C_fromCode 27 = .ok (.ldc2_w 41, 3) := by decide +kernel
theorem d_C_fromCode_30 : decode b_C_fromCode 30 = .ok (.lcmp, 1) := by decide +kernel
theorem d_C_fromCode_31 : decode b_C_fromCode 31 = .ok (.ifCond .ne 7, 3) := by decide +kernel
theorem d_C_fromCode_34 : decode b_C_fromCode 34 = .ok (.iconst 1, 1) := by decide +kernel
theorem d_C_fromCode_35 : decode b_C_fromCode 35 = .ok (.goto 4, 3) := by decide +kernel
theorem d_C_fromCode_38 : decode b_C_fromCode 38 = .ok (.iconst 0, 1) := by decide +kernel
theorem d_C_fromCode_39 : decode b_C_fromCode 39 = .ok (.invokestatic 43, 3) := by decide +kernel
theorem d_C_fromCode_42 : decode b_C_fromCode 42 = .ok (.goto 4, 3) := by decide +kernel
theorem d_C_fromCode_45 : decode b_C_fromCode 45 = .ok (.lconst 0, 1) := by decide +kernel
theorem d_C_fromCode_46 : decode b_C_fromCode 46 = .ok (.lreturn, 1) := by decide +kernel
theorem d_K_movedSecret_0 : decode b_K_movedSecret 0 = .ok (.lload_n 0, 1) := by decide +kernel
theorem d_K_movedSecret_1 : decode b_K_movedSecret 1 = .ok (.lconst 0, 1) := by decide +kernel
theorem d_K_movedSecret_2 : decode b_K_movedSecret 2 = .ok (.lcmp, 1) := by decide +kernel
theorem d_K_movedSecret_3 : decode b_K_movedSecret 3 = .ok (.ifCond .ne 5, 3) := by decide +kernel
theorem d_K_movedSecret_6 : decode b_K_movedSecret 6 = .ok (.lconst 0, 1) := by decide +kernel
theorem d_K_movedSecret_7 : decode b_K_movedSecret 7 = .ok (.lreturn, 1) := by decide +kernel
theorem d_K_movedSecret_8 : decode b_K_movedSecret 8 = .ok (.iload 4, 2) := by decide +kernel
theorem d_K_movedSecret_10 : decode b_K_movedSecret 10 = .ok (.ifCond .eq 9, 3) := by decide +kernel
theorem d_K_movedSecret_13 : decode b_K_movedSecret 13 = .ok (.lload_n 0, 1) := by decide +kernel
theorem d_K_movedSecret_14 : decode b_K_movedSecret 14 = .ok (.lload_n 2, 1) := by decide +kernel
theorem d_K_movedSecret_15 : decode b_K_movedSecret 15 = .ok (.lmul, 1) := by decide +kernel
theorem d_K_movedSecret_16 : decode b_K_movedSecret 16 = .ok (.goto 6, 3) := by decide +kernel
theorem d_K_movedSecret_19 : decode b_K_movedSecret 19 = .ok (.lload_n 0, 1) := by decide +kernel
theorem d_K_movedSecret_20 : decode b_K_movedSecret 20 = .ok (.lload_n 2, 1) := by decide +kernel
theorem d_K_movedSecret_21 : decode b_K_movedSecret 21 = .ok (.ladd, 1) := by decide +kernel
theorem d_K_movedSecret_22 : decode b_K_movedSecret 22 = .ok (.ldc2_w 101, 3) := by decide +kernel
theorem d_K_movedSecret_25 : decode b_K_movedSecret 25 = .ok (.lrem, 1) := by decide +kernel
theorem d_K_movedSecret_26 : decode b_K_movedSecret 26 = .ok (.lreturn, 1) := by decide +kernel
theorem d_K_digest_0 : decode b_K_digest 0 = .ok (.lload_n 0, 1) := by decide +kernel
theorem d_K_digest_1 : decode b_K_digest 1 = .ok (.ldc2_w 191, 3) := by decide +kernel
theorem d_K_digest_4 : decode b_K_digest 4 = .ok (.invokestatic 95, 3) := by decide +kernel
theorem d_K_digest_7 : decode b_K_digest 7 = .ok (.bipush 34, 2) := by decide +kernel
theorem d_K_digest_9 : decode b_K_digest 9 = .ok (.lushr, 1) := by decide +kernel
theorem d_K_digest_10 : decode b_K_digest 10 = .ok (.lreturn, 1) := by decide +kernel
theorem d_S_quotient_0 : decode b_S_quotient 0 = .ok (.lload_n 0, 1) := by decide +kernel
theorem d_S_quotient_1 : decode b_S_quotient 1 = .ok (.ldc2_w 9, 3) := by decide +kernel
theorem d_S_quotient_4 : decode b_S_quotient 4 = .ok (.lrem, 1) := by decide +kernel
theorem d_S_quotient_5 : decode b_S_quotient 5 = .ok (.lload_n 2, 1) := by decide +kernel
theorem d_S_quotient_6 : decode b_S_quotient 6 = .ok (.ldc2_w 9, 3) := by decide +kernel
theorem d_S_quotient_9 : decode b_S_quotient 9 = .ok (.invokestatic 11, 3) := by decide +kernel
theorem d_S_quotient_12 : decode b_S_quotient 12 = .ok (.lmul, 1) := by decide +kernel
theorem d_S_quotient_13 : decode b_S_quotient 13 = .ok (.ldc2_w 9, 3) := by decide +kernel
theorem d_S_quotient_16 : decode b_S_quotient 16 = .ok (.lrem, 1) := by decide +kernel
theorem d_S_quotient_17 : decode b_S_quotient 17 = .ok (.lreturn, 1) := by decide +kernel
theorem d_K_markOf_0 : decode b_K_markOf 0 = .ok (.lload_n 0, 1) := by decide +kernel
theorem d_K_markOf_1 : decode b_K_markOf 1 = .ok (.invokestatic 132, 3) := by decide +kernel
theorem d_K_markOf_4 : decode b_K_markOf 4 = .ok (.lload_n 2, 1) := by decide +kernel
theorem d_K_markOf_5 : decode b_K_markOf 5 = .ok (.ldc2_w 112, 3) := by decide +kernel
theorem d_K_markOf_8 : decode b_K_markOf 8 = .ok (.lcmp, 1) := by decide +kernel
theorem d_K_markOf_9 : decode b_K_markOf 9 = .ok (.ifCond .le 7, 3) := by decide +kernel
theorem d_K_markOf_12 : decode b_K_markOf 12 = .ok (.iconst 1, 1) := by decide +kernel
theorem d_K_markOf_13 : decode b_K_markOf 13 = .ok (.goto 4, 3) := by decide +kernel
theorem d_K_markOf_16 : decode b_K_markOf 16 = .ok (.iconst 0, 1) := by decide +kernel
theorem d_K_markOf_17 : decode b_K_markOf 17 = .ok (.if_icmp .eq 7, 3) := by decide +kernel
theorem d_K_markOf_20 : decode b_K_markOf 20 = .ok (.iconst 1, 1) := by decide +kernel
theorem d_K_markOf_21 : decode b_K_markOf 21 = .ok (.goto 4, 3) := by decide +kernel
theorem d_K_markOf_24 : decode b_K_markOf 24 = .ok (.iconst 0, 1) := by decide +kernel
theorem d_K_markOf_25 : decode b_K_markOf 25 = .ok (.istore 4, 2) := by decide +kernel
theorem d_K_markOf_27 : decode b_K_markOf 27 = .ok (.lload_n 0, 1) := by decide +kernel
theorem d_K_markOf_28 : decode b_K_markOf 28 = .ok (.invokestatic 98, 3) := by decide +kernel
theorem d_K_markOf_31 : decode b_K_markOf 31 = .ok (.ldc2_w 101, 3) := by decide +kernel
theorem d_K_markOf_34 : decode b_K_markOf 34 = .ok (.lcmp, 1) := by decide +kernel
theorem d_K_markOf_35 : decode b_K_markOf 35 = .ok (.ifCond .lt 10, 3) := by decide +kernel
theorem d_K_markOf_38 : decode b_K_markOf 38 = .ok (.iload 4, 2) := by decide +kernel
theorem d_K_markOf_40 : decode b_K_markOf 40 = .ok (.iconst 2, 1) := by decide +kernel
theorem d_K_markOf_41 : decode b_K_markOf 41 = .ok (.iadd, 1) := by decide +kernel
theorem d_K_markOf_42 : decode b_K_markOf 42 = .ok (.goto 5, 3) := by decide +kernel
theorem d_K_markOf_45 : decode b_K_markOf 45 = .ok (.iload 4, 2) := by decide +kernel
theorem d_K_markOf_47 : decode b_K_markOf 47 = .ok (.ireturn, 1) := by decide +kernel
theorem d_K_evenScalar_0 : decode b_K_evenScalar 0 = .ok (.lload_n 2, 1) := by decide +kernel
theorem d_K_evenScalar_1 : decode b_K_evenScalar 1 = .ok (.invokestatic 132, 3) := by decide +kernel
theorem d_K_evenScalar_4 : decode b_K_evenScalar 4 = .ok (.ifCond .eq 11, 3) := by decide +kernel
theorem d_K_evenScalar_7 : decode b_K_evenScalar 7 = .ok (.ldc2_w 101, 3) := by decide +kernel
theorem d_K_evenScalar_10 : decode b_K_evenScalar 10 = .ok (.lload_n 0, 1) := by decide +kernel
theorem d_K_evenScalar_11 : decode b_K_evenScalar 11 = .ok (.lsub, 1) := by decide +kernel
theorem d_K_evenScalar_12 : decode b_K_evenScalar 12 = .ok (.goto 4, 3) := by decide +kernel
theorem d_K_evenScalar_15 : decode b_K_evenScalar 15 = .ok (.lload_n 0, 1) := by decide +kernel
theorem d_K_evenScalar_16 : decode b_K_evenScalar 16 = .ok (.lreturn, 1) := by decide +kernel
theorem d_C_evenOf_0 : decode b_C_evenOf 0 = .ok (.lload_n 0, 1) := by decide +kernel
theorem d_C_evenOf_1 : decode b_C_evenOf 1 = .ok (.invokestatic 26, 3) := by decide +kernel
theorem d_C_evenOf_4 : decode b_C_evenOf 4 = .ok (.ifCond .eq 10, 3) := by decide +kernel
theorem d_C_evenOf_7 : decode b_C_evenOf 7 = .ok (.lload_n 0, 1) := by decide +kernel
theorem d_C_evenOf_8 : decode b_C_evenOf 8 = .ok (.invokestatic 30, 3) := by decide +kernel
theorem d_C_evenOf_11 : decode b_C_evenOf 11 = .ok (.goto 4, 3) := by decide +kernel
theorem d_C_evenOf_14 : decode b_C_evenOf 14 = .ok (.lload_n 0, 1) := by decide +kernel
theorem d_C_evenOf_15 : decode b_C_evenOf 15 = .ok (.lreturn, 1) := by decide +kernel
end
section
theorem d_M_isSlot_0 : decode b_M_isSlot 0 = .ok (.iload_n 0, 1) := by decide +kernel
theorem d_M_isSlot_1 : decode b_M_isSlot 1 = .ok (.ifCond .lt 12, 3) := by decide +kernel
theorem d_M_isSlot_4 : decode b_M_isSlot 4 = .ok (.iload_n 0, 1) := by decide +kernel
theorem d_M_isSlot_5 : decode b_M_isSlot 5 = .ok (.iconst 5, 1) := by decide +kernel
theorem d_M_isSlot_6 : decode b_M_isSlot 6 = .ok (.if_icmp .gt 7, 3) := by decide +kernel
theorem d_M_isSlot_9 : decode b_M_isSlot 9 = .ok (.iconst 1, 1) := by decide +kernel
theorem d_M_isSlot_10 : decode b_M_isSlot 10 = .ok (.goto 4, 3) := by decide +kernel
theorem d_M_isSlot_13 : decode b_M_isSlot 13 = .ok (.iconst 0, 1) := by decide +kernel
theorem d_M_isSlot_14 : decode b_M_isSlot 14 = .ok (.ireturn, 1) := by decide +kernel
theorem d_M_g_0 : decode b_M_g 0 = .ok (.ldc2_w 81, 3) := by decide +kernel
theorem d_M_g_3 : decode b_M_g 3 = .ok (.lreturn, 1) := by decide +kernel
theorem d_M_times_0 : decode b_M_times 0 = .ok (.ldc2_w 35, 3) := by decide +kernel
theorem d_M_times_3 : decode b_M_times 3 = .ok (.lstore 4, 2) := by decide +kernel
theorem d_M_times_5 : decode b_M_times 5 = .ok (.lload_n 2, 1) := by decide +kernel
theorem d_M_times_6 : decode b_M_times 6 = .ok (.lstore 6, 2) := by decide +kernel
theorem d_M_times_8 : decode b_M_times 8 = .ok (.lload_n 0, 1) := by decide +kernel
theorem d_M_times_9 : decode b_M_times 9 = .ok (.lstore 8, 2) := by decide +kernel
theorem d_M_times_11 : decode b_M_times 11 = .ok (.lload 8, 2) := by decide +kernel
theorem d_M_times_13 : decode b_M_times 13 = .ok (.lconst 0, 1) := by decide +kernel
theorem d_M_times_14 : decode b_M_times 14 = .ok (.lcmp, 1) := by decide +kernel
theorem d_M_times_15 : decode b_M_times 15 = .ok (.ifCond .le 48, 3) := by decide +kernel
theorem d_M_times_18 : decode b_M_times 18 = .ok (.lload 8, 2) := by decide +kernel
theorem d_M_times_20 : decode b_M_times 20 = .ok (.ldc2_w 45, 3) := by decide +kernel
theorem d_M_times_23 : decode b_M_times 23 = .ok (.lrem, 1) := by decide +kernel
theorem d_M_times_24 : decode b_M_times 24 = .ok (.lconst 1, 1) := by decide +kernel
theorem d_M_times_25 : decode b_M_times 25 = .ok (.lcmp, 1) := by decide +kernel
theorem d_M_times_26 : decode b_M_times 26 = .ok (.ifCond .ne 13, 3) := by decide +kernel
theorem d_M_times_29 : decode b_M_times 29 = .ok (.lload 4, 2) := by decide +kernel
theorem d_M_times_31 : decode b_M_times 31 = .ok (.lload 6, 2) := by decide +kernel
theorem d_M_times_33 : decode b_M_times 33 = .ok (.invokestatic 78, 3) := by decide +kernel
theorem d_M_times_36 : decode b_M_times 36 = .ok (.goto 5, 3) := by decide +kernel
theorem d_M_times_39 : decode b_M_times 39 = .ok (.lload 4, 2) := by decide +kernel
theorem d_M_times_41 : decode b_M_times 41 = .ok (.lstore 4, 2) := by decide +kernel
theorem d_M_times_43 : decode b_M_times 43 = .ok (.lload 6, 2) := by decide +kernel
theorem d_M_times_45 : decode b_M_times 45 = .ok (.lload 6, 2) := by decide +kernel
theorem d_M_times_47 : decode b_M_times 47 = .ok (.invokestatic 78, 3) := by decide +kernel
theorem d_M_times_50 : decode b_M_times 50 = .ok (.lstore 6, 2) := by decide +kernel
theorem d_M_times_52 : decode b_M_times 52 = .ok (.lload 8, 2) := by decide +kernel
theorem d_M_times_54 : decode b_M_times 54 = .ok (.ldc2_w 45, 3) := by decide +kernel
theorem d_M_times_57 : decode b_M_times 57 = .ok (.ldiv, 1) := by decide +kernel
theorem d_M_times_58 : decode b_M_times 58 = .ok (.lstore 8, 2) := by decide +kernel
theorem d_M_times_60 : decode b_M_times 60 = .ok (.goto (-49), 3) := by decide +kernel
theorem d_M_times_63 : decode b_M_times 63 = .ok (.lload 4, 2) := by decide +kernel
theorem d_M_times_65 : decode b_M_times 65 = .ok (.lreturn, 1) := by decide +kernel
theorem d_M_sum_0 : decode b_M_sum 0 = .ok (.lload_n 0, 1) := by decide +kernel
theorem d_M_sum_1 : decode b_M_sum 1 = .ok (.ldc2_w 35, 3) := by decide +kernel
theorem d_M_sum_4 : decode b_M_sum 4 = .ok (.lcmp, 1) := by decide +kernel
theorem d_M_sum_5 : decode b_M_sum 5 = .ok (.ifCond .eq 11, 3) := by decide +kernel
theorem d_M_sum_8 : decode b_M_sum 8 = .ok (.lload_n 2, 1) := by decide +kernel
theorem d_M_sum_9 : decode b_M_sum 9 = .ok (.ldc2_w 35, 3) := by decide +kernel
theorem d_M_sum_12 : decode b_M_sum 12 = .ok (.lcmp, 1) := by decide +kernel
theorem d_M_sum_13 : decode b_M_sum 13 = .ok (.ifCond .ne 17, 3) := by decide +kernel
theorem d_M_sum_16 : decode b_M_sum 16 = .ok (.lload_n 0, 1) := by decide +kernel
theorem d_M_sum_17 : decode b_M_sum 17 = .ok (.ldc2_w 35, 3) := by decide +kernel
theorem d_M_sum_20 : decode b_M_sum 20 = .ok (.lcmp, 1) := by decide +kernel
theorem d_M_sum_21 : decode b_M_sum 21 = .ok (.ifCond .ne 7, 3) := by decide +kernel
theorem d_M_sum_24 : decode b_M_sum 24 = .ok (.lload_n 2, 1) := by decide +kernel
theorem d_M_sum_25 : decode b_M_sum 25 = .ok (.goto 4, 3) := by decide +kernel
theorem d_M_sum_28 : decode b_M_sum 28 = .ok (.lload_n 0, 1) := by decide +kernel
theorem d_M_sum_29 : decode b_M_sum 29 = .ok (.lreturn, 1) := by decide +kernel
theorem d_M_sum_30 : decode b_M_sum 30 = .ok (.lload_n 0, 1) := by decide +kernel
theorem d_M_sum_31 : decode b_M_sum 31 = .ok (.invokestatic 64, 3) := by decide +kernel
theorem d_M_sum_34 : decode b_M_sum 34 = .ok (.lstore 4, 2) := by decide +kernel
theorem d_M_sum_36 : decode b_M_sum 36 = .ok (.lload_n 0, 1) := by decide +kernel
theorem d_M_sum_37 : decode b_M_sum 37 = .ok (.invokestatic 68, 3) := by decide +kernel
theorem d_M_sum_40 : decode b_M_sum 40 = .ok (.lstore 6, 2) := by decide +kernel
theorem d_M_sum_42 : decode b_M_sum 42 = .ok (.lload_n 2, 1) := by decide +kernel
theorem d_M_sum_43 : decode b_M_sum 43 = .ok (.invokestatic 64, 3) := by decide +kernel
theorem d_M_sum_46 : decode b_M_sum 46 = .ok (.lstore 8, 2) := by decide +kernel
theorem d_M_sum_48 : decode b_M_sum 48 = .ok (.lload_n 2, 1) := by decide +kernel
theorem d_M_sum_49 : decode b_M_sum 49 = .ok (.invokestatic 68, 3) := by decide +kernel
theorem d_M_sum_52 : decode b_M_sum 52 = .ok (.lstore 10, 2) := by decide +kernel
theorem d_M_sum_54 : decode b_M_sum 54 = .ok (.lload 4, 2) := by decide +kernel
theorem d_M_sum_56 : decode b_M_sum 56 = .ok (.lload 8, 2) := by decide +kernel
theorem d_M_sum_58 : decode b_M_sum 58 = .ok (.lcmp, 1) := by decide +kernel
theorem d_M_sum_59 : decode b_M_sum 59 = .ok (.ifCond .ne 15, 3) := by decide +kernel
theorem d_M_sum_62 : decode b_M_sum 62 = .ok (.lload 6, 2) := by decide +kernel
theorem d_M_sum_64 : decode b_M_sum 64 = .ok (.lload 10, 2) := by decide +kernel
theorem d_M_sum_66 : decode b_M_sum 66 = .ok (.lcmp, 1) := by decide +kernel
theorem d_M_sum_67 : decode b_M_sum 67 = .ok (.ifCond .eq 7, 3) := by decide +kernel
theorem d_M_sum_70 : decode b_M_sum 70 = .ok (.ldc2_w 35, 3) := by decide +kernel
theorem d_M_sum_73 : decode b_M_sum 73 = .ok (.lreturn, 1) := by decide +kernel
theorem d_M_sum_74 : decode b_M_sum 74 = .ok (.lload 4, 2) := by decide +kernel
theorem d_M_sum_76 : decode b_M_sum 76 = .ok (.lload 8, 2) := by decide +kernel
theorem d_M_sum_78 : decode b_M_sum 78 = .ok (.lcmp, 1) := by decide +kernel
theorem d_M_sum_79 : decode b_M_sum 79 = .ok (.ifCond .ne 31, 3) := by decide +kernel
theorem d_M_sum_82 : decode b_M_sum 82 = .ok (.ldc2_w 71, 3) := by decide +kernel
theorem d_M_sum_85 : decode b_M_sum 85 = .ok (.lload 4, 2) := by decide +kernel
theorem d_M_sum_87 : decode b_M_sum 87 = .ok (.lload 4, 2) := by decide +kernel
theorem d_M_sum_89 : decode b_M_sum 89 = .ok (.lmul, 1) := by decide +kernel
theorem d_M_sum_90 : decode b_M_sum 90 = .ok (.ldc2_w 73, 3) := by decide +kernel
theorem d_M_sum_93 : decode b_M_sum 93 = .ok (.lrem, 1) := by decide +kernel
theorem d_M_sum_94 : decode b_M_sum 94 = .ok (.lmul, 1) := by decide +kernel
theorem d_M_sum_95 : decode b_M_sum 95 = .ok (.ldc2_w 45, 3) := by decide +kernel
theorem d_M_sum_98 : decode b_M_sum 98 = .ok (.lload 6, 2) := by decide +kernel
theorem d_M_sum_100 : decode b_M_sum 100 = .ok (.lmul, 1) := by decide +kernel
theorem d_M_sum_101 : decode b_M_sum 101 = .ok (.ldc2_w 73, 3) := by decide +kernel
theorem d_M_sum_104 : decode b_M_sum 104 = .ok (.invokestatic 75, 3) := by decide +kernel
theorem d_M_sum_107 : decode b_M_sum 107 = .ok (.goto 25, 3) := by decide +kernel
theorem d_M_sum_110 : decode b_M_sum 110 = .ok (.lload 10, 2) := by decide +kernel
theorem d_M_sum_112 : decode b_M_sum 112 = .ok (.lload 6, 2) := by decide +kernel
theorem d_M_sum_114 : decode b_M_sum 114 = .ok (.lsub, 1) := by decide +kernel
theorem d_M_sum_115 : decode b_M_sum 115 = .ok (.lload 8, 2) := by decide +kernel
theorem d_M_sum_117 : decode b_M_sum 117 = .ok (.lload 4, 2) := by decide +kernel
theorem d_M_sum_119 : decode b_M_sum 119 = .ok (.lsub, 1) := by decide +kernel
theorem d_M_sum_120 : decode b_M_sum 120 = .ok (.ldc2_w 73, 3) := by decide +kernel
theorem d_M_sum_123 : decode b_M_sum 123 = .ok (.invokestatic 41, 3) := by decide +kernel
theorem d_M_sum_126 : decode b_M_sum 126 = .ok (.ldc2_w 73, 3) := by decide +kernel
theorem d_M_sum_129 : decode b_M_sum 129 = .ok (.invokestatic 75, 3) := by decide +kernel
theorem d_M_sum_132 : decode b_M_sum 132 = .ok (.lstore 12, 2) := by decide +kernel
theorem d_M_sum_134 : decode b_M_sum 134 = .ok (.lload 12, 2) := by decide +kernel
theorem d_M_sum_136 : decode b_M_sum 136 = .ok (.lload 12, 2) := by decide +kernel
theorem d_M_sum_138 : decode b_M_sum 138 = .ok (.lmul, 1) := by decide +kernel
theorem d_M_sum_139 : decode b_M_sum 139 = .ok (.ldc2_w 73, 3) := by decide +kernel
theorem d_M_sum_142 : decode b_M_sum 142 = .ok (.lrem, 1) := by decide +kernel
theorem d_M_sum_143 : decode b_M_sum 143 = .ok (.lload 4, 2) := by decide +kernel
theorem d_M_sum_145 : decode b_M_sum 145 = .ok (.lsub, 1) := by decide +kernel
theorem d_M_sum_146 : decode b_M_sum 146 = .ok (.lload 8, 2) := by decide +kernel
theorem d_M_sum_148 : decode b_M_sum 148 = .ok (.lsub, 1) := by decide +kernel
theorem d_M_sum_149 : decode b_M_sum 149 = .ok (.ldc2_w 73, 3) := by decide +kernel
theorem d_M_sum_152 : decode b_M_sum 152 = .ok (.invokestatic 41, 3) := by decide +kernel
theorem d_M_sum_155 : decode b_M_sum 155 = .ok (.lstore 14, 2) := by decide +kernel
theorem d_M_sum_157 : decode b_M_sum 157 = .ok (.lload 12, 2) := by decide +kernel
theorem d_M_sum_159 : decode b_M_sum 159 = .ok (.lload 4, 2) := by decide +kernel
theorem d_M_sum_161 : decode b_M_sum 161 = .ok (.lload 14, 2) := by decide +kernel
theorem d_M_sum_163 : decode b_M_sum 163 = .ok (.lsub, 1) := by decide +kernel
theorem d_M_sum_164 : decode b_M_sum 164 = .ok (.ldc2_w 73, 3) := by decide +kernel
theorem d_M_sum_167 : decode b_M_sum 167 = .ok (.invokestatic 41, 3) := by decide +kernel
theorem d_M_sum_170 : decode b_M_sum 170 = .ok (.lmul, 1) := by decide +kernel
theorem d_M_sum_171 : decode b_M_sum 171 = .ok (.ldc2_w 73, 3) := by decide +kernel
theorem d_M_sum_174 : decode b_M_sum 174 = .ok (.lrem, 1) := by decide +kernel
theorem d_M_sum_175 : decode b_M_sum 175 = .ok (.lload 6, 2) := by decide +kernel
theorem d_M_sum_177 : decode b_M_sum 177 = .ok (.lsub, 1) := by decide +kernel
theorem d_M_sum_178 : decode b_M_sum 178 = .ok (.ldc2_w 73, 3) := by decide +kernel
theorem d_M_sum_181 : decode b_M_sum 181 = .ok (.invokestatic 41, 3) := by decide +kernel
theorem d_M_sum_184 : decode b_M_sum 184 = .ok (.lstore 16, 2) := by decide +kernel
theorem d_M_sum_186 : decode b_M_sum 186 = .ok (.lload 14, 2) := by decide +kernel
theorem d_M_sum_188 : decode b_M_sum 188 = .ok (.ldc2_w 62, 3) := by decide +kernel
theorem d_M_sum_191 : decode b_M_sum 191 = .ok (.lmul, 1) := by decide +kernel
theorem d_M_sum_192 : decode b_M_sum 192 = .ok (.lload 16, 2) := by decide +kernel
theorem d_M_sum_194 : decode b_M_sum 194 = .ok (.ladd, 1) := by decide +kernel
theorem d_M_sum_195 : decode b_M_sum 195 = .ok (.lreturn, 1) := by decide +kernel
theorem d_M_xOf_0 : decode b_M_xOf 0 = .ok (.lload_n 0, 1) := by decide +kernel
theorem d_M_xOf_1 : decode b_M_xOf 1 = .ok (.ldc2_w 62, 3) := by decide +kernel
theorem d_M_xOf_4 : decode b_M_xOf 4 = .ok (.ldiv, 1) := by decide +kernel
theorem d_M_xOf_5 : decode b_M_xOf 5 = .ok (.lreturn, 1) := by decide +kernel
theorem d_M_yOf_0 : decode b_M_yOf 0 = .ok (.lload_n 0, 1) := by decide +kernel
theorem d_M_yOf_1 : decode b_M_yOf 1 = .ok (.ldc2_w 62, 3) := by decide +kernel
theorem d_M_yOf_4 : decode b_M_yOf 4 = .ok (.lrem, 1) := by decide +kernel
theorem d_M_yOf_5 : decode b_M_yOf 5 = .ok (.lreturn, 1) := by decide +kernel
theorem d_M_quotient_0 : decode b_M_quotient 0 = .ok (.lload_n 0, 1) := by decide +kernel
theorem d_M_quotient_1 : decode b_M_quotient 1 = .ok (.lload 4, 2) := by decide +kernel
theorem d_M_quotient_3 : decode b_M_quotient 3 = .ok (.invokestatic 41, 3) := by decide +kernel
theorem d_M_quotient_6 : decode b_M_quotient 6 = .ok (.lload_n 2, 1) := by decide +kernel
theorem d_M_quotient_7 : decode b_M_quotient 7 = .ok (.lload 4, 2) := by decide +kernel
theorem d_M_quotient_9 : decode b_M_quotient 9 = .ok (.ldc2_w 45, 3) := by decide +kernel
theorem d_M_quotient_12 : decode b_M_quotient 12 = .ok (.lsub, 1) := by decide +kernel
theorem d_M_quotient_13 : decode b_M_quotient 13 = .ok (.lload 4, 2) := by decide +kernel
theorem d_M_quotient_15 : decode b_M_quotient 15 = .ok (.invokestatic 47, 3) := by decide +kernel
theorem d_M_quotient_18 : decode b_M_quotient 18 = .ok (.lmul, 1) := by decide +kernel
theorem d_M_quotient_19 : decode b_M_quotient 19 = .ok (.lload 4, 2) := by decide +kernel
theorem d_M_quotient_21 : decode b_M_quotient 21 = .ok (.lrem, 1) := by decide +kernel
theorem d_M_quotient_22 : decode b_M_quotient 22 = .ok (.lreturn, 1) := by decide +kernel
theorem d_M_mod_0 : decode b_M_mod 0 = .ok (.lload_n 0, 1) := by decide +kernel
theorem d_M_mod_1 : decode b_M_mod 1 = .ok (.lload_n 2, 1) := by decide +kernel
theorem d_M_mod_2 : decode b_M_mod 2 = .ok (.lrem, 1) := by decide +kernel
theorem d_M_mod_3 : decode b_M_mod 3 = .ok (.lstore 4, 2) := by decide +kernel
theorem d_M_mod_5 : decode b_M_mod 5 = .ok (.lload 4, 2) := by decide +kernel
theorem d_M_mod_7 : decode b_M_mod 7 = .ok (.lconst 0, 1) := by decide +kernel
theorem d_M_mod_8 : decode b_M_mod 8 = .ok (.lcmp, 1) := by decide +kernel
theorem d_M_mod_9 : decode b_M_mod 9 = .ok (.ifCond .ge 10, 3) := by decide +kernel
theorem d_M_mod_12 : decode b_M_mod 12 = .ok (.lload 4, 2) := by decide +kernel
theorem d_M_mod_14 : decode b_M_mod 14 = .ok (.lload_n 2, 1) := by decide +kernel
theorem d_M_mod_15 : decode b_M_mod 15 = .ok (.ladd, 1) := by decide +kernel
theorem d_M_mod_16 : decode b_M_mod 16 = .ok (.goto 5, 3) := by decide +kernel
theorem d_M_mod_19 : decode b_M_mod 19 = .ok (.lload 4, 2) := by decide +kernel
theorem d_M_mod_21 : decode b_M_mod 21 = .ok (.lreturn, 1) := by decide +kernel
theorem d_M_power_0 : decode b_M_power 0 = .ok (.lconst 1, 1) := by decide +kernel
theorem d_M_power_1 : decode b_M_power 1 = .ok (.lstore 6, 2) := by decide +kernel
theorem d_M_power_3 : decode b_M_power 3 = .ok (.lload_n 0, 1) := by decide +kernel
theorem d_M_power_4 : decode b_M_power 4 = .ok (.lload 4, 2) := by decide +kernel
theorem d_M_power_6 : decode b_M_power 6 = .ok (.invokestatic 41, 3) := by decide +kernel
theorem d_M_power_9 : decode b_M_power 9 = .ok (.lstore 8, 2) := by decide +kernel
theorem d_M_power_11 : decode b_M_power 11 = .ok (.lload_n 2, 1) := by decide +kernel
theorem d_M_power_12 : decode b_M_power 12 = .ok (.lstore 10, 2) := by decide +kernel
theorem d_M_power_14 : decode b_M_power 14 = .ok (.lload 10, 2) := by decide +kernel
theorem d_M_power_16 : decode b_M_power 16 = .ok (.lconst 0, 1) := by decide +kernel
theorem d_M_power_17 : decode b_M_power 17 = .ok (.lcmp, 1) := by decide +kernel
theorem d_M_power_18 : decode b_M_power 18 = .ok (.ifCond .le 50, 3) := by decide +kernel
theorem d_M_power_21 : decode b_M_power 21 = .ok (.lload 10, 2) := by decide +kernel
theorem d_M_power_23 : decode b_M_power 23 = .ok (.ldc2_w 45, 3) := by decide +kernel
theorem d_M_power_26 : decode b_M_power 26 = .ok (.lrem, 1) := by decide +kernel
theorem d_M_power_27 : decode b_M_power 27 = .ok (.lconst 1, 1) := by decide +kernel
theorem d_M_power_28 : decode b_M_power 28 = .ok (.lcmp, 1) := by decide +kernel
theorem d_M_power_29 : decode b_M_power 29 = .ok (.ifCond .ne 14, 3) := by decide +kernel
theorem d_M_power_32 : decode b_M_power 32 = .ok (.lload 6, 2) := by decide +kernel
theorem d_M_power_34 : decode b_M_power 34 = .ok (.lload 8, 2) := by decide +kernel
theorem d_M_power_36 : decode b_M_power 36 = .ok (.lmul, 1) := by decide +kernel
theorem d_M_power_37 : decode b_M_power 37 = .ok (.lload 4, 2) := by decide +kernel
theorem d_M_power_39 : decode b_M_power 39 = .ok (.lrem, 1) := by decide +kernel
theorem d_M_power_40 : decode b_M_power 40 = .ok (.goto 5, 3) := by decide +kernel
theorem d_M_power_43 : decode b_M_power 43 = .ok (.lload 6, 2) := by decide +kernel
theorem d_M_power_45 : decode b_M_power 45 = .ok (.lstore 6, 2) := by decide +kernel
theorem d_M_power_47 : decode b_M_power 47 = .ok (.lload 8, 2) := by decide +kernel
theorem d_M_power_49 : decode b_M_power 49 = .ok (.lload 8, 2) := by decide +kernel
theorem d_M_power_51 : decode b_M_power 51 = .ok (.lmul, 1) := by decide +kernel
theorem d_M_power_52 : decode b_M_power 52 = .ok (.lload 4, 2) := by decide +kernel
theorem d_M_power_54 : decode b_M_power 54 = .ok (.lrem, 1) := by decide +kernel
theorem d_M_power_55 : decode b_M_power 55 = .ok (.lstore 8, 2) := by decide +kernel
theorem d_M_power_57 : decode b_M_power 57 = .ok (.lload 10, 2) := by decide +kernel
theorem d_M_power_59 : decode b_M_power 59 = .ok (.ldc2_w 45, 3) := by decide +kernel
theorem d_M_power_62 : decode b_M_power 62 = .ok (.ldiv, 1) := by decide +kernel
theorem d_M_power_63 : decode b_M_power 63 = .ok (.lstore 10, 2) := by decide +kernel
theorem d_M_power_65 : decode b_M_power 65 = .ok (.goto (-51), 3) := by decide +kernel
theorem d_M_power_68 : decode b_M_power 68 = .ok (.lload 6, 2) := by decide +kernel
theorem d_M_power_70 : decode b_M_power 70 = .ok (.lreturn, 1) := by decide +kernel
theorem d_M_codeOf_0 : decode b_M_codeOf 0 = .ok (.lload_n 0, 1) := by decide +kernel
theorem d_M_codeOf_1 : decode b_M_codeOf 1 = .ok (.ldc2_w 35, 3) := by decide +kernel
theorem d_M_codeOf_4 : decode b_M_codeOf 4 = .ok (.lcmp, 1) := by decide +kernel
theorem d_M_codeOf_5 : decode b_M_codeOf 5 = .ok (.ifCond .ne 7, 3) := by decide +kernel
theorem d_M_codeOf_8 : decode b_M_codeOf 8 = .ok (.lconst 0, 1) := by decide +kernel
theorem d_M_codeOf_9 : decode b_M_codeOf 9 = .ok (.goto 24, 3) := by decide +kernel
theorem d_M_codeOf_12 : decode b_M_codeOf 12 = .ok (.ldc2_w 45, 3) := by decide +kernel
theorem d_M_codeOf_15 : decode b_M_codeOf 15 = .ok (.lload_n 0, 1) := by decide +kernel
theorem d_M_codeOf_16 : decode b_M_codeOf 16 = .ok (.invokestatic 68, 3) := by decide +kernel
theorem d_M_codeOf_19 : decode b_M_codeOf 19 = .ok (.ldc2_w 45, 3) := by decide +kernel
theorem d_M_codeOf_22 : decode b_M_codeOf 22 = .ok (.lrem, 1) := by decide +kernel
theorem d_M_codeOf_23 : decode b_M_codeOf 23 = .ok (.ladd, 1) := by decide +kernel
theorem d_M_codeOf_24 : decode b_M_codeOf 24 = .ok (.ldc2_w 87, 3) := by decide +kernel
theorem d_M_codeOf_27 : decode b_M_codeOf 27 = .ok (.lmul, 1) := by decide +kernel
theorem d_M_codeOf_28 : decode b_M_codeOf 28 = .ok (.lload_n 0, 1) := by decide +kernel
theorem d_M_codeOf_29 : decode b_M_codeOf 29 = .ok (.invokestatic 64, 3) := by decide +kernel
theorem d_M_codeOf_32 : decode b_M_codeOf 32 = .ok (.ladd, 1) := by decide +kernel
theorem d_M_codeOf_33 : decode b_M_codeOf 33 = .ok (.lreturn, 1) := by decide +kernel
theorem d_M_pointOf_0 : decode b_M_pointOf 0 = .ok (.lload_n 0, 1) := by decide +kernel
theorem d_M_pointOf_1 : decode b_M_pointOf 1 = .ok (.bipush 32, 2) := by decide +kernel
theorem d_M_pointOf_3 : decode b_M_pointOf 3 = .ok (.lshr, 1) := by decide +kernel
theorem d_M_pointOf_4 : decode b_M_pointOf 4 = .ok (.lstore_n 2, 1) := by decide +kernel
theorem d_M_pointOf_5 : decode b_M_pointOf 5 = .ok (.lload_n 2, 1) := by decide +kernel
theorem d_M_pointOf_6 : decode b_M_pointOf 6 = .ok (.ldc2_w 45, 3) := by decide +kernel
theorem d_M_pointOf_9 : decode b_M_pointOf 9 = .ok (.lcmp, 1) := by decide +kernel
theorem d_M_pointOf_10 : decode b_M_pointOf 10 = .ok (.ifCond .eq 11, 3) := by decide +kernel
theorem d_M_pointOf_13 : decode b_M_pointOf 13 = .ok (.lload_n 2, 1) := by decide +kernel
theorem d_M_pointOf_14 : decode b_M_pointOf 14 = .ok (.ldc2_w 71, 3) := by decide +kernel
theorem d_M_pointOf_17 : decode b_M_pointOf 17 = .ok (.lcmp, 1) := by decide +kernel
theorem d_M_pointOf_18 : decode b_M_pointOf 18 = .ok (.ifCond .ne 29, 3) := by decide +kernel
theorem d_M_pointOf_21 : decode b_M_pointOf 21 = .ok (.lload_n 0, 1) := by decide +kernel
theorem d_M_pointOf_22 : decode b_M_pointOf 22 = .ok (.lload_n 2, 1) := by decide +kernel
theorem d_M_pointOf_23 : decode b_M_pointOf 23 = .ok (.ldc2_w 87, 3) := by decide +kernel
theorem d_M_pointOf_26 : decode b_M_pointOf 26 = .ok (.lmul, 1) := by decide +kernel
theorem d_M_pointOf_27 : decode b_M_pointOf 27 = .ok (.lsub, 1) := by decide +kernel
theorem d_M_pointOf_28 : decode b_M_pointOf 28 = .ok (.lload_n 2, 1) := by decide +kernel
theorem d_M_pointOf_29 : decode b_M_pointOf 29 = .ok (.ldc2_w 71, 3) := by decide +kernel
theorem d_M_pointOf_32 : decode b_M_pointOf 32 = .ok (.lcmp, 1) := by decide +kernel
theorem d_M_pointOf_33 : decode b_M_pointOf 33 = .ok (.ifCond .ne 7, 3) := by decide +kernel
theorem d_M_pointOf_36 : decode b_M_pointOf 36 = .ok (.iconst 1, 1) := by decide +kernel
theorem d_M_pointOf_37 : decode b_M_pointOf 37 = .ok (.goto 4, 3) := by decide +kernel
theorem d_M_pointOf_40 : decode b_M_pointOf 40 = .ok (.iconst 0, 1) := by decide +kernel
theorem d_M_pointOf_41 : decode b_M_pointOf 41 = .ok (.invokestatic 89, 3) := by decide +kernel
theorem d_M_pointOf_44 : decode b_M_pointOf 44 = .ok (.goto 6, 3) := by decide +kernel
theorem d_M_pointOf_47 : decode b_M_pointOf 47 = .ok (.ldc2_w 35, 3) := by decide +kernel
theorem d_M_pointOf_50 : decode b_M_pointOf 50 = .ok (.lreturn, 1) := by decide +kernel
theorem d_M_lift_0 : decode b_M_lift 0 = .ok (.lload_n 0, 1) := by decide +kernel
theorem d_M_lift_1 : decode b_M_lift 1 = .ok (.lconst 0, 1) := by decide +kernel
theorem d_M_lift_2 : decode b_M_lift 2 = .ok (.lcmp, 1) := by decide +kernel
theorem d_M_lift_3 : decode b_M_lift 3 = .ok (.ifCond .lt 11, 3) := by decide +kernel
theorem d_M_lift_6 : decode b_M_lift 6 = .ok (.lload_n 0, 1) := by decide +kernel
theorem d_M_lift_7 : decode b_M_lift 7 = .ok (.ldc2_w 73, 3) := by decide +kernel
theorem d_M_lift_10 : decode b_M_lift 10 = .ok (.lcmp, 1) := by decide +kernel
theorem d_M_lift_11 : decode b_M_lift 11 = .ok (.ifCond .lt 7, 3) := by decide +kernel
theorem d_M_lift_14 : decode b_M_lift 14 = .ok (.ldc2_w 35, 3) := by decide +kernel
theorem d_M_lift_17 : decode b_M_lift 17 = .ok (.lreturn, 1) := by decide +kernel
theorem d_M_lift_18 : decode b_M_lift 18 = .ok (.lload_n 0, 1) := by decide +kernel
theorem d_M_lift_19 : decode b_M_lift 19 = .ok (.lload_n 0, 1) := by decide +kernel
theorem d_M_lift_20 : decode b_M_lift 20 = .ok (.lmul, 1) := by decide +kernel
theorem d_M_lift_21 : decode b_M_lift 21 = .ok (.ldc2_w 73, 3) := by decide +kernel
theorem d_M_lift_24 : decode b_M_lift 24 = .ok (.lrem, 1) := by decide +kernel
theorem d_M_lift_25 : decode b_M_lift 25 = .ok (.lload_n 0, 1) := by decide +kernel
theorem d_M_lift_26 : decode b_M_lift 26 = .ok (.lmul, 1) := by decide +kernel
theorem d_M_lift_27 : decode b_M_lift 27 = .ok (.ldc2_w 83, 3) := by decide +kernel
theorem d_M_lift_30 : decode b_M_lift 30 = .ok (.ladd, 1) := by decide +kernel
theorem d_M_lift_31 : decode b_M_lift 31 = .ok (.ldc2_w 73, 3) := by decide +kernel
theorem d_M_lift_34 : decode b_M_lift 34 = .ok (.lrem, 1) := by decide +kernel
theorem d_M_lift_35 : decode b_M_lift 35 = .ok (.lstore_n 3, 1) := by decide +kernel
theorem d_M_lift_36 : decode b_M_lift 36 = .ok (.lload_n 3, 1) := by decide +kernel
theorem d_M_lift_37 : decode b_M_lift 37 = .ok (.ldc2_w 85, 3) := by decide +kernel
theorem d_M_lift_40 : decode b_M_lift 40 = .ok (.ldc2_w 73, 3) := by decide +kernel
theorem d_M_lift_43 : decode b_M_lift 43 = .ok (.invokestatic 47, 3) := by decide +kernel
theorem d_M_lift_46 : decode b_M_lift 46 = .ok (.lstore 5, 2) := by decide +kernel
theorem d_M_lift_48 : decode b_M_lift 48 = .ok (.lload 5, 2) := by decide +kernel
theorem d_M_lift_50 : decode b_M_lift 50 = .ok (.lload 5, 2) := by decide +kernel
theorem d_M_lift_52 : decode b_M_lift 52 = .ok (.lmul, 1) := by decide +kernel
theorem d_M_lift_53 : decode b_M_lift 53 = .ok (.ldc2_w 73, 3) := by decide +kernel
theorem d_M_lift_56 : decode b_M_lift 56 = .ok (.lrem, 1) := by decide +kernel
theorem d_M_lift_57 : decode b_M_lift 57 = .ok (.lload_n 3, 1) := by decide +kernel
theorem d_M_lift_58 : decode b_M_lift 58 = .ok (.lcmp, 1) := by decide +kernel
theorem d_M_lift_59 : decode b_M_lift 59 = .ok (.ifCond .eq 7, 3) := by decide +kernel
theorem d_M_lift_62 : decode b_M_lift 62 = .ok (.ldc2_w 35, 3) := by decide +kernel
theorem d_M_lift_65 : decode b_M_lift 65 = .ok (.lreturn, 1) := by decide +kernel
theorem d_M_lift_66 : decode b_M_lift 66 = .ok (.lload_n 0, 1) := by decide +kernel
theorem d_M_lift_67 : decode b_M_lift 67 = .ok (.ldc2_w 62, 3) := by decide +kernel
theorem d_M_lift_70 : decode b_M_lift 70 = .ok (.lmul, 1) := by decide +kernel
theorem d_M_lift_71 : decode b_M_lift 71 = .ok (.lload 5, 2) := by decide +kernel
theorem d_M_lift_73 : decode b_M_lift 73 = .ok (.ldc2_w 45, 3) := by decide +kernel
theorem d_M_lift_76 : decode b_M_lift 76 = .ok (.lrem, 1) := by decide +kernel
theorem d_M_lift_77 : decode b_M_lift 77 = .ok (.lconst 1, 1) := by decide +kernel
theorem d_M_lift_78 : decode b_M_lift 78 = .ok (.lcmp, 1) := by decide +kernel
theorem d_M_lift_79 : decode b_M_lift 79 = .ok (.ifCond .ne 7, 3) := by decide +kernel
theorem d_M_lift_82 : decode b_M_lift 82 = .ok (.iconst 1, 1) := by decide +kernel
theorem d_M_lift_83 : decode b_M_lift 83 = .ok (.goto 4, 3) := by decide +kernel
theorem d_M_lift_86 : decode b_M_lift 86 = .ok (.iconst 0, 1) := by decide +kernel
theorem d_M_lift_87 : decode b_M_lift 87 = .ok (.iload_n 2, 1) := by decide +kernel
theorem d_M_lift_88 : decode b_M_lift 88 = .ok (.if_icmp .ne 8, 3) := by decide +kernel
theorem d_M_lift_91 : decode b_M_lift 91 = .ok (.lload 5, 2) := by decide +kernel
theorem d_M_lift_93 : decode b_M_lift 93 = .ok (.goto 9, 3) := by decide +kernel
theorem d_M_lift_96 : decode b_M_lift 96 = .ok (.ldc2_w 73, 3) := by decide +kernel
theorem d_M_lift_99 : decode b_M_lift 99 = .ok (.lload 5, 2) := by decide +kernel
theorem d_M_lift_101 : decode b_M_lift 101 = .ok (.lsub, 1) := by decide +kernel
theorem d_M_lift_102 : decode b_M_lift 102 = .ok (.ladd, 1) := by decide +kernel
theorem d_M_lift_103 : decode b_M_lift 103 = .ok (.lreturn, 1) := by decide +kernel
theorem d_M_isScalar_0 : decode b_M_isScalar 0 = .ok (.iload_n 0, 1) := by decide +kernel
theorem d_M_isScalar_1 : decode b_M_isScalar 1 = .ok (.ifCond .lt 16, 3) := by decide +kernel
theorem d_M_isScalar_4 : decode b_M_isScalar 4 = .ok (.iload_n 0, 1) := by decide +kernel
theorem d_M_isScalar_5 : decode b_M_isScalar 5 = .ok (.i2l, 1) := by decide +kernel
theorem d_M_isScalar_6 : decode b_M_isScalar 6 = .ok (.ldc2_w 93, 3) := by decide +kernel
theorem d_M_isScalar_9 : decode b_M_isScalar 9 = .ok (.lcmp, 1) := by decide +kernel
theorem d_M_isScalar_10 : decode b_M_isScalar 10 = .ok (.ifCond .ge 7, 3) := by decide +kernel
theorem d_M_isScalar_13 : decode b_M_isScalar 13 = .ok (.iconst 1, 1) := by decide +kernel
theorem d_M_isScalar_14 : decode b_M_isScalar 14 = .ok (.goto 4, 3) := by decide +kernel
theorem d_M_isScalar_17 : decode b_M_isScalar 17 = .ok (.iconst 0, 1) := by decide +kernel
theorem d_M_isScalar_18 : decode b_M_isScalar 18 = .ok (.ireturn, 1) := by decide +kernel
theorem d_M_digest_0 : decode b_M_digest 0 = .ok (.lload_n 0, 1) := by decide +kernel
theorem d_M_digest_1 : decode b_M_digest 1 = .ok (.ldc2_w 57, 3) := by decide +kernel
theorem d_M_digest_4 : decode b_M_digest 4 = .ok (.invokestatic 59, 3) := by decide +kernel
theorem d_M_digest_7 : decode b_M_digest 7 = .ok (.bipush 34, 2) := by decide +kernel
theorem d_M_digest_9 : decode b_M_digest 9 = .ok (.lushr, 1) := by decide +kernel
theorem d_M_digest_10 : decode b_M_digest 10 = .ok (.lreturn, 1) := by decide +kernel
theorem d_M_h_0 : decode b_M_h 0 = .ok (.lload_n 0, 1) := by decide +kernel
theorem d_M_h_1 : decode b_M_h 1 = .ok (.ldc2_w 51, 3) := by decide +kernel
theorem d_M_h_4 : decode b_M_h 4 = .ok (.lxor, 1) := by decide +kernel
theorem d_M_h_5 : decode b_M_h 5 = .ok (.ldc2_w 53, 3) := by decide +kernel
theorem d_M_h_8 : decode b_M_h 8 = .ok (.lmul, 1) := by decide +kernel
theorem d_M_h_9 : decode b_M_h 9 = .ok (.lload_n 2, 1) := by decide +kernel
theorem d_M_h_10 : decode b_M_h 10 = .ok (.ladd, 1) := by decide +kernel
theorem d_M_h_11 : decode b_M_h 11 = .ok (.lstore 4, 2) := by decide +kernel
theorem d_M_h_13 : decode b_M_h 13 = .ok (.lload 4, 2) := by decide +kernel
theorem d_M_h_15 : decode b_M_h 15 = .ok (.lload 4, 2) := by decide +kernel
theorem d_M_h_17 : decode b_M_h 17 = .ok (.bipush 31, 2) := by decide +kernel
theorem d_M_h_19 : decode b_M_h 19 = .ok (.lushr, 1) := by decide +kernel
theorem d_M_h_20 : decode b_M_h 20 = .ok (.lxor, 1) := by decide +kernel
theorem d_M_h_21 : decode b_M_h 21 = .ok (.lstore 4, 2) := by decide +kernel
theorem d_M_h_23 : decode b_M_h 23 = .ok (.lload 4, 2) := by decide +kernel
theorem d_M_h_25 : decode b_M_h 25 = .ok (.ldc2_w 55, 3) := by decide +kernel
theorem d_M_h_28 : decode b_M_h 28 = .ok (.lmul, 1) := by decide +kernel
theorem d_M_h_29 : decode b_M_h 29 = .ok (.lstore 4, 2) := by decide +kernel
theorem d_M_h_31 : decode b_M_h 31 = .ok (.lload 4, 2) := by decide +kernel
theorem d_M_h_33 : decode b_M_h 33 = .ok (.lload 4, 2) := by decide +kernel
theorem d_M_h_35 : decode b_M_h 35 = .ok (.bipush 28, 2) := by decide +kernel
theorem d_M_h_37 : decode b_M_h 37 = .ok (.lushr, 1) := by decide +kernel
theorem d_M_h_38 : decode b_M_h 38 = .ok (.lxor, 1) := by decide +kernel
theorem d_M_h_39 : decode b_M_h 39 = .ok (.lreturn, 1) := by decide +kernel
theorem d_M_odd_0 : decode b_M_odd 0 = .ok (.lload_n 0, 1) := by decide +kernel
theorem d_M_odd_1 : decode b_M_odd 1 = .ok (.invokestatic 68, 3) := by decide +kernel
theorem d_M_odd_4 : decode b_M_odd 4 = .ok (.ldc2_w 45, 3) := by decide +kernel
theorem d_M_odd_7 : decode b_M_odd 7 = .ok (.lrem, 1) := by decide +kernel
theorem d_M_odd_8 : decode b_M_odd 8 = .ok (.lconst 1, 1) := by decide +kernel
theorem d_M_odd_9 : decode b_M_odd 9 = .ok (.lcmp, 1) := by decide +kernel
theorem d_M_odd_10 : decode b_M_odd 10 = .ok (.ifCond .ne 7, 3) := by decide +kernel
theorem d_M_odd_13 : decode b_M_odd 13 = .ok (.iconst 1, 1) := by decide +kernel
theorem d_M_odd_14 : decode b_M_odd 14 = .ok (.goto 4, 3) := by decide +kernel
theorem d_M_odd_17 : decode b_M_odd 17 = .ok (.iconst 0, 1) := by decide +kernel
theorem d_M_odd_18 : decode b_M_odd 18 = .ok (.ireturn, 1) := by decide +kernel
theorem d_M_challenge_0 : decode b_M_challenge 0 = .ok (.lload_n 0, 1) := by decide +kernel
theorem d_M_challenge_1 : decode b_M_challenge 1 = .ok (.ldc2_w 87, 3) := by decide +kernel
theorem d_M_challenge_4 : decode b_M_challenge 4 = .ok (.lmul, 1) := by decide +kernel
theorem d_M_challenge_5 : decode b_M_challenge 5 = .ok (.lload_n 2, 1) := by decide +kernel
theorem d_M_challenge_6 : decode b_M_challenge 6 = .ok (.ladd, 1) := by decide +kernel
theorem d_M_challenge_7 : decode b_M_challenge 7 = .ok (.ldc2_w 141, 3) := by decide +kernel
theorem d_M_challenge_10 : decode b_M_challenge 10 = .ok (.invokestatic 59, 3) := by decide +kernel
theorem d_M_challenge_13 : decode b_M_challenge 13 = .ok (.lload 4, 2) := by decide +kernel
theorem d_M_challenge_15 : decode b_M_challenge 15 = .ok (.invokestatic 59, 3) := by decide +kernel
theorem d_M_challenge_18 : decode b_M_challenge 18 = .ok (.bipush 33, 2) := by decide +kernel
theorem d_M_challenge_20 : decode b_M_challenge 20 = .ok (.lushr, 1) := by decide +kernel
theorem d_M_challenge_21 : decode b_M_challenge 21 = .ok (.ldc2_w 93, 3) := by decide +kernel
theorem d_M_challenge_24 : decode b_M_challenge 24 = .ok (.lrem, 1) := by decide +kernel
theorem d_M_challenge_25 : decode b_M_challenge 25 = .ok (.lreturn, 1) := by decide +kernel
theorem d_M_bytesOf_0 : decode b_M_bytesOf 0 = .ok (.iload_n 0, 1) := by decide +kernel
theorem d_M_bytesOf_1 : decode b_M_bytesOf 1 = .ok (.sipush 128, 3) := by decide +kernel
theorem d_M_bytesOf_4 : decode b_M_bytesOf 4 = .ok (.if_icmp .ge 7, 3) := by decide +kernel
theorem d_M_bytesOf_7 : decode b_M_bytesOf 7 = .ok (.iconst 1, 1) := by decide +kernel
theorem d_M_bytesOf_8 : decode b_M_bytesOf 8 = .ok (.goto 24, 3) := by decide +kernel
theorem d_M_bytesOf_11 : decode b_M_bytesOf 11 = .ok (.iload_n 0, 1) := by decide +kernel
theorem d_M_bytesOf_12 : decode b_M_bytesOf 12 = .ok (.ldc 153, 2) := by decide +kernel
theorem d_M_bytesOf_14 : decode b_M_bytesOf 14 = .ok (.if_icmp .ge 7, 3) := by decide +kernel
theorem d_M_bytesOf_17 : decode b_M_bytesOf 17 = .ok (.iconst 2, 1) := by decide +kernel
theorem d_M_bytesOf_18 : decode b_M_bytesOf 18 = .ok (.goto 14, 3) := by decide +kernel
theorem d_M_bytesOf_21 : decode b_M_bytesOf 21 = .ok (.iload_n 0, 1) := by decide +kernel
theorem d_M_bytesOf_22 : decode b_M_bytesOf 22 = .ok (.ldc 154, 2) := by decide +kernel
theorem d_M_bytesOf_24 : decode b_M_bytesOf 24 = .ok (.if_icmp .ge 7, 3) := by decide +kernel
theorem d_M_bytesOf_27 : decode b_M_bytesOf 27 = .ok (.iconst 3, 1) := by decide +kernel
theorem d_M_bytesOf_28 : decode b_M_bytesOf 28 = .ok (.goto 4, 3) := by decide +kernel
theorem d_M_bytesOf_31 : decode b_M_bytesOf 31 = .ok (.iconst 4, 1) := by decide +kernel
theorem d_M_bytesOf_32 : decode b_M_bytesOf 32 = .ok (.ireturn, 1) := by decide +kernel
end
section
/-! Contracts of methods that touch no cells, by program: f_.. mirrors the code, k_.. says that the code does it. -/
section
variable {p : Program} {l : Launch} {e : Env} {R : Room} {s : State} {m : MethodId} {args : Array Value} {below : List Frame} {meth : Method} {c : Code} {H : Heap} {locs : List Loc} {cells slots : Nat} {Q : State → Prop} {pc : Nat} {ls : Array Slot} {rest : List Value}
theorem nz_b {v : Int32} (h : v = 0 ∨ v = 1) : narrow .boolean (.int v) = .int v := by rcases h with rfl | rfl <;> decide
theorem nm_l {x v : Int64} (h : x = v) (k : W p l e R s m args below meth c H locs cells slots Q (F0 m pc ls (.long v :: rest))) : W p l e R s m args below meth c H locs cells slots Q (F0 m pc ls (.long x :: rest)) := h ▸ k
theorem nm_i {x v : Int32} (h : x = v) (k : W p l e R s m args below meth c H locs cells slots Q (F0 m pc ls (.int v :: rest))) : W p l e R s m args below meth c H locs cells slots Q (F0 m pc ls (.int x :: rest)) := h ▸ k
end
def f_K_mix (a0 : Int64) (a1 : Int64) : Option Int64 := Option.bind (some (((a0 ^^^ 5903417616886299669) * 6364136223846793005) + a1)) (fun v1 => Option.bind (some (v1 ^^^ ((Int64.toUInt64 v1 >>> ((Int32.toInt64 31).toUInt64 &&& Int64.toUInt64 63)).toInt64))) (fun v2 => Option.bind (some (v2 * 2685821657736338717)) (fun v3 => some (v3 ^^^ ((Int64.toUInt64 v3 >>> ((Int32.toInt64 28).toUInt64 &&& Int64.toUInt64 63)).toInt64)))))
abbrev rm_K_mix : Room := { frames := 0, cells := 0, slots := 0, locals := 0 }
set_option maxHeartbeats 4000000 in
set_option maxRecDepth 100000 in
theorem k_K_mix (l : Launch) (a0 : Int64) (a1 : Int64) (r : Int64) (hF : f_K_mix a0 a1 = some r) : Met l y_K_mix (Cond.code y_K_mix b_K_mix 6 (some .long) :: wa) rm_K_mix (pcs [.long a0, .long a1]) (vp_Sl (fun z => z = r)) 0 0 (fun _ => False) := by
  refine Met.ofW (cc := b_K_mix) (maxL := 6) (ret := (some .long)) (by decide) rfl ?_
  intro p e s m args below meth c s₁ B hml hv
  obtain ⟨rfl, hN⟩ := hv
  have hx := B.exec
  have hb := B.bytes
  have hr := B.returns
  have hts := atoms_spec (ws := Cond.code y_K_mix b_K_mix 6 (some .long) :: wa) B.pre
  have hw : ∀ w ∈ wa, w.before _ s = true := fun w h => hts w (List.mem_cons_of_mem _ h)
  have hown : s.vm.findClass R_K = some m.cls := findClass_of_methodNamed B.named
  have hlocks := B.notSynchronized
  have hl := lv_entry ([.long a0, .long a1]) (n := 6) (Nat.le_of_ble_eq_true rfl)
  rw [lg_entry_eq]
  generalize (lg_sl ([.long a0, .long a1]) ++ List.replicate (6 - (lg_sl ([.long a0, .long a1])).length) Slot.unset).toArray = ls at hl ⊢
  have hl : lv_has ls 6 [(0, .long a0), (2, .long a1)] := hl
  unfold f_K_mix at hF
  refine lv_lload_n hx hb d_K_mix_0 rfl (lv_at hl 0 rfl) ?_
  refine lv_ldc2 (v := 5903417616886299669) hx hb hown (hw _ ww_135) d_K_mix_1 ?_
  refine lv_lxor hx hb d_K_mix_4 ?_
  refine lv_ldc2 (v := 6364136223846793005) hx hb hown (hw _ ww_136) d_K_mix_5 ?_
  refine lv_lmul hx hb d_K_mix_8 ?_
  refine lv_lload_n hx hb d_K_mix_9 rfl (lv_at hl 1 rfl) ?_
  refine lv_ladd hx hb d_K_mix_10 ?_
  obtain ⟨v1, e_v1, hF⟩ := Option.bind_eq_some_iff.mp hF
  refine nm_l (Option.some.inj e_v1) ?_
  refine lv_lstore hx hb d_K_mix_11 hl (by decide) (lv' := [(4, .long v1), (0, .long a0), (2, .long a1)]) rfl (fun ls hl => ?_)
  refine lv_lload hx hb d_K_mix_13 (lv_at hl 0 rfl) ?_
  refine lv_lload hx hb d_K_mix_15 (lv_at hl 0 rfl) ?_
  refine lv_bipush (v := 31) hx hb d_K_mix_17 (by decide) ?_
  refine lv_lushr (v := (Int64.toUInt64 v1 >>> ((Int32.toInt64 31).toUInt64 &&& Int64.toUInt64 63)).toInt64) hx hb d_K_mix_19 rfl ?_
  refine lv_lxor hx hb d_K_mix_20 ?_
  obtain ⟨v2, e_v2, hF⟩ := Option.bind_eq_some_iff.mp hF
  refine nm_l (Option.some.inj e_v2) ?_
  refine lv_lstore hx hb d_K_mix_21 hl (by decide) (lv' := [(4, .long v2), (0, .long a0), (2, .long a1)]) rfl (fun ls hl => ?_)
  refine lv_lload hx hb d_K_mix_23 (lv_at hl 0 rfl) ?_
  refine lv_ldc2 (v := 2685821657736338717) hx hb hown (hw _ ww_137) d_K_mix_25 ?_
  refine lv_lmul hx hb d_K_mix_28 ?_
  obtain ⟨v3, e_v3, hF⟩ := Option.bind_eq_some_iff.mp hF
  refine nm_l (Option.some.inj e_v3) ?_
  refine lv_lstore hx hb d_K_mix_29 hl (by decide) (lv' := [(4, .long v3), (0, .long a0), (2, .long a1)]) rfl (fun ls hl => ?_)
  refine lv_lload hx hb d_K_mix_31 (lv_at hl 0 rfl) ?_
  refine lv_lload hx hb d_K_mix_33 (lv_at hl 0 rfl) ?_
  refine lv_bipush (v := 28) hx hb d_K_mix_35 (by decide) ?_
  refine lv_lushr (v := (Int64.toUInt64 v3 >>> ((Int32.toInt64 28).toUInt64 &&& Int64.toUInt64 63)).toInt64) hx hb d_K_mix_37 rfl ?_
  refine lv_lxor hx hb d_K_mix_38 ?_
  obtain rfl := Option.some.inj hF
  exact W.lret hx hb hr (fun t ht hW => ⟨_, rfl, rfl, ht⟩) (fun _ h => nomatch h) d_K_mix_39
def f_K_digest (a0 : Int64) : Option Int64 := Option.bind (f_K_mix a0 17) (fun r1 => some ((Int64.toUInt64 r1 >>> ((Int32.toInt64 34).toUInt64 &&& Int64.toUInt64 63)).toInt64))
abbrev rm_K_digest : Room := { frames := 1, cells := 0, slots := 0, locals := 25 }
set_option maxHeartbeats 4000000 in
set_option maxRecDepth 100000 in
theorem k_K_digest (l : Launch) (a0 : Int64) (r : Int64) (hF : f_K_digest a0 = some r) : Met l y_K_digest (Cond.code y_K_digest b_K_digest 2 (some .long) :: wa) rm_K_digest (pcs [.long a0]) (vp_Sl (fun z => z = r)) 0 0 (fun _ => False) := by
  refine Met.ofW (cc := b_K_digest) (maxL := 2) (ret := (some .long)) (by decide) rfl ?_
  intro p e s m args below meth c s₁ B hml hv
  obtain ⟨rfl, hN⟩ := hv
  have hx := B.exec
  have hb := B.bytes
  have hr := B.returns
  have hts := atoms_spec (ws := Cond.code y_K_digest b_K_digest 2 (some .long) :: wa) B.pre
  have hw : ∀ w ∈ wa, w.before _ s = true := fun w h => hts w (List.mem_cons_of_mem _ h)
  have hown : s.vm.findClass R_K = some m.cls := findClass_of_methodNamed B.named
  have hlocks := B.notSynchronized
  have hl := lv_entry ([.long a0]) (n := 2) (Nat.le_of_ble_eq_true rfl)
  rw [lg_entry_eq]
  generalize (lg_sl ([.long a0]) ++ List.replicate (2 - (lg_sl ([.long a0])).length) Slot.unset).toArray = ls at hl ⊢
  have hl : lv_has ls 2 [(0, .long a0)] := hl
  unfold f_K_digest at hF
  refine lv_lload_n hx hb d_K_digest_0 rfl (lv_at hl 0 rfl) ?_
  refine lv_ldc2 (v := 17) hx hb hown (hw _ ww_416) d_K_digest_1 ?_
  obtain ⟨r1, e_r1, hF⟩ := Option.bind_eq_some_iff.mp hF
  refine vp_callSl (va_runS (As := [.long a0, .long 17]) (rest := []) ⟨hx, hb, hml, hown, hts⟩ (k_K_mix l a0 17 r1 e_r1) (va_cwS 2 hts (ga_S ww_145 ww_133 ww_1 ww_134) rfl rfl rfl (by decide +kernel) ⟨by decide, by decide⟩) (pcs_pre hN) rfl rfl hl.1 rfl (lv_room (Nat.le_of_ble_eq_true rfl)) d_K_digest_4 ⟨Nat.zero_le _, Nat.zero_le _⟩).run (fun z9 hz9 => ?_)
  obtain rfl : r1 = z9 := hz9.symm
  refine lv_bipush (v := 34) hx hb d_K_digest_7 (by decide) ?_
  refine lv_lushr (v := (Int64.toUInt64 r1 >>> ((Int32.toInt64 34).toUInt64 &&& Int64.toUInt64 63)).toInt64) hx hb d_K_digest_9 rfl ?_
  obtain rfl := Option.some.inj hF
  exact W.lret hx hb hr (fun t ht hW => ⟨_, rfl, rfl, ht⟩) (fun _ h => nomatch h) d_K_digest_10
def f_K_challenge (a0 : Int64) (a1 : Int64) (a2 : Int64) : Option Int64 := Option.bind (f_K_mix ((a0 * 4294967296) + a1) 29) (fun r1 => Option.bind (f_K_mix r1 a2) (fun r2 => some (((Int64.toUInt64 r2 >>> ((Int32.toInt64 33).toUInt64 &&& Int64.toUInt64 63)).toInt64) - ((Int64.toUInt64 r2 >>> ((Int32.toInt64 33).toUInt64 &&& Int64.toUInt64 63)).toInt64) / 1073729077 * 1073729077)))
abbrev rm_K_challenge : Room := { frames := 1, cells := 0, slots := 0, locals := 25 }
set_option maxHeartbeats 4000000 in
set_option maxRecDepth 100000 in
theorem k_K_challenge (l : Launch) (a0 : Int64) (a1 : Int64) (a2 : Int64) (r : Int64) (hF : f_K_challenge a0 a1 a2 = some r) : Met l y_K_challenge (Cond.code y_K_challenge b_K_challenge 6 (some .long) :: wa) rm_K_challenge (pcs [.long a0, .long a1, .long a2]) (vp_Sl (fun z => z = r)) 0 0 (fun _ => False) := by
  refine Met.ofW (cc := b_K_challenge) (maxL := 6) (ret := (some .long)) (by decide) rfl ?_
  intro p e s m args below meth c s₁ B hml hv
  obtain ⟨rfl, hN⟩ := hv
  have hx := B.exec
  have hb := B.bytes
  have hr := B.returns
  have hts := atoms_spec (ws := Cond.code y_K_challenge b_K_challenge 6 (some .long) :: wa) B.pre
  have hw : ∀ w ∈ wa, w.before _ s = true := fun w h => hts w (List.mem_cons_of_mem _ h)
  have hown : s.vm.findClass R_K = some m.cls := findClass_of_methodNamed B.named
  have hlocks := B.notSynchronized
  have hl := lv_entry ([.long a0, .long a1, .long a2]) (n := 6) (Nat.le_of_ble_eq_true rfl)
  rw [lg_entry_eq]
  generalize (lg_sl ([.long a0, .long a1, .long a2]) ++ List.replicate (6 - (lg_sl ([.long a0, .long a1, .long a2])).length) Slot.unset).toArray = ls at hl ⊢
  have hl : lv_has ls 6 [(0, .long a0), (2, .long a1), (4, .long a2)] := hl
  unfold f_K_challenge at hF
  refine lv_lload_n hx hb d_K_challenge_0 rfl (lv_at hl 0 rfl) ?_
  refine lv_ldc2 (v := 4294967296) hx hb hown (hw _ ww_143) d_K_challenge_1 ?_
  refine lv_lmul hx hb d_K_challenge_4 ?_
  refine lv_lload_n hx hb d_K_challenge_5 rfl (lv_at hl 1 rfl) ?_
  refine lv_ladd hx hb d_K_challenge_6 ?_
  refine lv_ldc2 (v := 29) hx hb hown (hw _ ww_144) d_K_challenge_7 ?_
  obtain ⟨r1, e_r1, hF⟩ := Option.bind_eq_some_iff.mp hF
  refine vp_callSl (va_runS (As := [.long ((a0 * 4294967296) + a1), .long 29]) (rest := []) ⟨hx, hb, hml, hown, hts⟩ (k_K_mix l ((a0 * 4294967296) + a1) 29 r1 e_r1) (va_cwS 2 hts (ga_S ww_145 ww_133 ww_1 ww_134) rfl rfl rfl (by decide +kernel) ⟨by decide, by decide⟩) (pcs_pre hN) rfl rfl hl.1 rfl (lv_room (Nat.le_of_ble_eq_true rfl)) d_K_challenge_10 ⟨Nat.zero_le _, Nat.zero_le _⟩).run (fun z9 hz9 => ?_)
  obtain rfl : r1 = z9 := hz9.symm
  refine lv_lload hx hb d_K_challenge_13 (lv_at hl 2 rfl) ?_
  obtain ⟨r2, e_r2, hF⟩ := Option.bind_eq_some_iff.mp hF
  refine vp_callSl (va_runS (As := [.long r1, .long a2]) (rest := []) ⟨hx, hb, hml, hown, hts⟩ (k_K_mix l r1 a2 r2 e_r2) (va_cwS 2 hts (ga_S ww_145 ww_133 ww_1 ww_134) rfl rfl rfl (by decide +kernel) ⟨by decide, by decide⟩) (pcs_pre hN) rfl rfl hl.1 rfl (lv_room (Nat.le_of_ble_eq_true rfl)) d_K_challenge_15 ⟨Nat.zero_le _, Nat.zero_le _⟩).run (fun z9 hz9 => ?_)
  obtain rfl : r2 = z9 := hz9.symm
  refine lv_bipush (v := 33) hx hb d_K_challenge_18 (by decide) ?_
  refine lv_lushr (v := (Int64.toUInt64 r2 >>> ((Int32.toInt64 33).toUInt64 &&& Int64.toUInt64 63)).toInt64) hx hb d_K_challenge_20 rfl ?_
  refine lv_ldc2 (v := 1073729077) hx hb hown (hw _ ww_146) d_K_challenge_21 ?_
  refine lv_lrem hx hb d_K_challenge_24 (by decide) ?_
  obtain rfl := Option.some.inj hF
  exact W.lret hx hb hr (fun t ht hW => ⟨_, rfl, rfl, ht⟩) (fun _ h => nomatch h) d_K_challenge_25
def f_K_inverse_15 (a1 : Int64) : Nat → Int32 → Int64 → Int64 → Int64 → Int64 → Option (Int32 × Int64 × Int64 × Int64 × Int64)
  | 0, _, _, _, _, _ => none
  | n + 1, u1, u2, u3, u4, u5 => if 64 ≤ u1 then (some (u1, u2, u3, u4, u5)) else (if (lg_cmp u4 0) = 0 then (some (u1, u2, u3, u4, u5)) else (if u4 = 0 then none else (Option.bind (some (u5 / u4)) (fun v14 => Option.bind (some (u5 - (v14 * u4))) (fun v15 => Option.bind (some (u3 - (v14 * u2))) (fun v16 => Option.bind (some (u1 + 1)) (fun v17 => f_K_inverse_15 a1 n v17 v16 u2 v15 u4)))))))
def f_K_inverse (a0 : Int64) (a1 : Int64) : Option Int64 := Option.bind (f_K_inverse_15 a1 65 0 1 0 a0 a1) (fun t19 => match t19 with | (o7, o8, o9, o10, o11) => (Option.bind (if 0 ≤ (lg_cmp o9 0) then (some (o9) : Option (Int64)) else (some (o9 + a1))) (fun j20 => some (j20))))
abbrev rm_K_inverse : Room := { frames := 0, cells := 0, slots := 0, locals := 0 }
set_option maxHeartbeats 4000000 in
set_option maxRecDepth 100000 in
theorem k_K_inverse (l : Launch) (a0 : Int64) (a1 : Int64) (r : Int64) (hF : f_K_inverse a0 a1 = some r) : Met l y_K_inverse (Cond.code y_K_inverse b_K_inverse 19 (some .long) :: wa) rm_K_inverse (pcs [.long a0, .long a1]) (vp_Sl (fun z => z = r)) 0 0 (fun _ => False) := by
  refine Met.ofW (cc := b_K_inverse) (maxL := 19) (ret := (some .long)) (by decide) rfl ?_
  intro p e s m args below meth c s₁ B hml hv
  obtain ⟨rfl, hN⟩ := hv
  have hx := B.exec
  have hb := B.bytes
  have hr := B.returns
  have hts := atoms_spec (ws := Cond.code y_K_inverse b_K_inverse 19 (some .long) :: wa) B.pre
  have hw : ∀ w ∈ wa, w.before _ s = true := fun w h => hts w (List.mem_cons_of_mem _ h)
  have hown : s.vm.findClass R_K = some m.cls := findClass_of_methodNamed B.named
  have hlocks := B.notSynchronized
  have hl := lv_entry ([.long a0, .long a1]) (n := 19) (Nat.le_of_ble_eq_true rfl)
  rw [lg_entry_eq]
  generalize (lg_sl ([.long a0, .long a1]) ++ List.replicate (19 - (lg_sl ([.long a0, .long a1])).length) Slot.unset).toArray = ls at hl ⊢
  have hl : lv_has ls 19 [(0, .long a0), (2, .long a1)] := hl
  unfold f_K_inverse at hF
  refine lv_lload_n hx hb d_K_inverse_0 rfl (lv_at hl 1 rfl) ?_
  refine lv_lstore hx hb d_K_inverse_1 hl (by decide) (lv' := [(4, .long a1), (0, .long a0), (2, .long a1)]) rfl (fun ls hl => ?_)
  refine lv_lload_n hx hb d_K_inverse_3 rfl (lv_at hl 1 rfl) ?_
  refine lv_lstore hx hb d_K_inverse_4 hl (by decide) (lv' := [(6, .long a0), (4, .long a1), (0, .long a0), (2, .long a1)]) rfl (fun ls hl => ?_)
  refine lv_lconst (v := 0) hx hb d_K_inverse_6 (by decide) ?_
  refine lv_lstore hx hb d_K_inverse_7 hl (by decide) (lv' := [(8, .long 0), (6, .long a0), (4, .long a1), (0, .long a0), (2, .long a1)]) rfl (fun ls hl => ?_)
  refine lv_lconst (v := 1) hx hb d_K_inverse_9 (by decide) ?_
  refine lv_lstore hx hb d_K_inverse_10 hl (by decide) (lv' := [(10, .long 1), (8, .long 0), (6, .long a0), (4, .long a1), (0, .long a0), (2, .long a1)]) rfl (fun ls hl => ?_)
  refine lv_iconst (v := 0) hx hb d_K_inverse_12 (by decide) ?_
  refine lv_istore hx hb d_K_inverse_13 hl (by decide) (lv' := [(12, .int 0), (10, .long 1), (8, .long 0), (6, .long a0), (4, .long a1), (0, .long a0), (2, .long a1)]) rfl (fun ls hl => ?_)
  obtain ⟨⟨o7, o8, o9, o10, o11⟩, q18, hF⟩ := Option.bind_eq_some_iff.mp hF
  have k12 : ∀ (ls : Array Slot), lv_has ls 19 [(12, .int o7), (10, .long o8), (8, .long o9), (6, .long o10), (4, .long o11), (2, .long a1)] → W p l e rm_K_inverse s m ([Value.long a0, Value.long a1] : List Value).toArray below meth c s.heap [] 0 0 (MQ below (vp_Sl (fun z => z = r)) ([Value.long a0, Value.long a1] : List Value).toArray s 0 0 (fun _ => False)) (F0 m 78 ls []) := by
    intro ls hl
    refine lv_lload hx hb d_K_inverse_78 (lv_at hl 2 rfl) ?_
    refine lv_lconst (v := 0) hx hb d_K_inverse_80 (by decide) ?_
    refine W.lcmp hx hb d_K_inverse_81 ?_
    obtain ⟨j20, q22, hF⟩ := Option.bind_eq_some_iff.mp hF
    have k21 : ∀ (ls : Array Slot), lv_has ls 19 [] → W p l e rm_K_inverse s m ([Value.long a0, Value.long a1] : List Value).toArray below meth c s.heap [] 0 0 (MQ below (vp_Sl (fun z => z = r)) ([Value.long a0, Value.long a1] : List Value).toArray s 0 0 (fun _ => False)) (F0 m 94 ls [.long j20]) := by
      intro ls hl
      obtain rfl := Option.some.inj hF
      exact W.lret hx hb hr (fun t ht hW => ⟨_, rfl, rfl, ht⟩) (fun _ h => nomatch h) d_K_inverse_94
    clear hF
    have hF := q22
    refine lv_if_ge hx hb d_K_inverse_82 (tgt := 92) (by decide) (fun h9 => ?_) (fun h9 => ?_)
    · have hF := (if_pos h9).symm.trans hF
      refine lv_lload hx hb d_K_inverse_92 (lv_at hl 2 rfl) ?_
      obtain rfl := Option.some.inj hF
      exact k21 ls (lv_sub hl [] rfl)
    · have hF := (if_neg h9).symm.trans hF
      refine lv_lload hx hb d_K_inverse_85 (lv_at hl 2 rfl) ?_
      refine lv_lload_n hx hb d_K_inverse_87 rfl (lv_at hl 5 rfl) ?_
      refine lv_ladd hx hb d_K_inverse_88 ?_
      refine lv_goto hx hb d_K_inverse_89 (tgt := 94) (by decide) ?_
      obtain rfl := Option.some.inj hF
      exact k21 ls (lv_sub hl [] rfl)
  clear hF
  have k6 : ∀ (n : Nat) (u1 : Int32) (u2 : Int64) (u3 : Int64) (u4 : Int64) (u5 : Int64) (ls : Array Slot), lv_has ls 19 [(12, .int u1), (10, .long u2), (8, .long u3), (6, .long u4), (4, .long u5), (2, .long a1)] → f_K_inverse_15 a1 n u1 u2 u3 u4 u5 = some (o7, o8, o9, o10, o11) → W p l e rm_K_inverse s m ([Value.long a0, Value.long a1] : List Value).toArray below meth c s.heap [] 0 0 (MQ below (vp_Sl (fun z => z = r)) ([Value.long a0, Value.long a1] : List Value).toArray s 0 0 (fun _ => False)) (F0 m 15 ls []) := by
    intro n
    induction n with
    | zero => intro u1 u2 u3 u4 u5 ls hl hF; cases hF
    | succ n ih =>
      intro u1 u2 u3 u4 u5 ls hl hF
      rw [f_K_inverse_15] at hF
      refine lv_iload hx hb d_K_inverse_15 (lv_at hl 0 rfl) ?_
      refine lv_bipush (v := 64) hx hb d_K_inverse_17 (by decide) ?_
      refine lv_icmp_ge hx hb d_K_inverse_19 (tgt := 78) (by decide) (fun h9 => ?_) (fun h9 => ?_)
      · have hF := (if_pos h9).symm.trans hF
        cases Option.some.inj hF
        exact k12 ls (lv_sub hl [0, 1, 2, 3, 4, 5] rfl)
      · have hF := (if_neg h9).symm.trans hF
        refine lv_lload hx hb d_K_inverse_22 (lv_at hl 3 rfl) ?_
        refine lv_lconst (v := 0) hx hb d_K_inverse_24 (by decide) ?_
        refine W.lcmp hx hb d_K_inverse_25 ?_
        refine lv_if_eq hx hb d_K_inverse_26 (tgt := 78) (by decide) (fun h9 => ?_) (fun h9 => ?_)
        · have hF := (if_pos h9).symm.trans hF
          cases Option.some.inj hF
          exact k12 ls (lv_sub hl [0, 1, 2, 3, 4, 5] rfl)
        · have hF := (if_neg h9).symm.trans hF
          refine lv_lload hx hb d_K_inverse_29 (lv_at hl 4 rfl) ?_
          refine lv_lload hx hb d_K_inverse_31 (lv_at hl 3 rfl) ?_
          by_cases h13 : u4 = 0
          · rw [if_pos h13] at hF; cases hF
          have hF := (if_neg h13).symm.trans hF
          refine lv_ldiv hx hb d_K_inverse_33 h13 ?_
          obtain ⟨v14, e_v14, hF⟩ := Option.bind_eq_some_iff.mp hF
          refine nm_l (Option.some.inj e_v14) ?_
          refine lv_lstore hx hb d_K_inverse_34 hl (by decide) (lv' := [(13, .long v14), (12, .int u1), (10, .long u2), (8, .long u3), (6, .long u4), (4, .long u5), (2, .long a1)]) rfl (fun ls hl => ?_)
          refine lv_lload hx hb d_K_inverse_36 (lv_at hl 5 rfl) ?_
          refine lv_lload hx hb d_K_inverse_38 (lv_at hl 0 rfl) ?_
          refine lv_lload hx hb d_K_inverse_40 (lv_at hl 4 rfl) ?_
          refine lv_lmul hx hb d_K_inverse_42 ?_
          refine lv_lsub hx hb d_K_inverse_43 ?_
          obtain ⟨v15, e_v15, hF⟩ := Option.bind_eq_some_iff.mp hF
          refine nm_l (Option.some.inj e_v15) ?_
          refine lv_lstore hx hb d_K_inverse_44 hl (by decide) (lv' := [(15, .long v15), (13, .long v14), (12, .int u1), (10, .long u2), (8, .long u3), (6, .long u4), (4, .long u5), (2, .long a1)]) rfl (fun ls hl => ?_)
          refine lv_lload hx hb d_K_inverse_46 (lv_at hl 4 rfl) ?_
          refine lv_lload hx hb d_K_inverse_48 (lv_at hl 1 rfl) ?_
          refine lv_lload hx hb d_K_inverse_50 (lv_at hl 3 rfl) ?_
          refine lv_lmul hx hb d_K_inverse_52 ?_
          refine lv_lsub hx hb d_K_inverse_53 ?_
          obtain ⟨v16, e_v16, hF⟩ := Option.bind_eq_some_iff.mp hF
          refine nm_l (Option.some.inj e_v16) ?_
          refine lv_lstore hx hb d_K_inverse_54 hl (by decide) (lv' := [(17, .long v16), (15, .long v15), (13, .long v14), (12, .int u1), (10, .long u2), (8, .long u3), (6, .long u4), (4, .long u5), (2, .long a1)]) rfl (fun ls hl => ?_)
          refine lv_lload hx hb d_K_inverse_56 (lv_at hl 6 rfl) ?_
          refine lv_lstore hx hb d_K_inverse_58 hl (by decide) (lv' := [(4, .long u4), (17, .long v16), (15, .long v15), (13, .long v14), (12, .int u1), (10, .long u2), (8, .long u3), (6, .long u4), (2, .long a1)]) rfl (fun ls hl => ?_)
          refine lv_lload hx hb d_K_inverse_60 (lv_at hl 2 rfl) ?_
          refine lv_lstore hx hb d_K_inverse_62 hl (by decide) (lv' := [(6, .long v15), (4, .long u4), (17, .long v16), (15, .long v15), (13, .long v14), (12, .int u1), (10, .long u2), (8, .long u3), (2, .long a1)]) rfl (fun ls hl => ?_)
          refine lv_lload hx hb d_K_inverse_64 (lv_at hl 6 rfl) ?_
          refine lv_lstore hx hb d_K_inverse_66 hl (by decide) (lv' := [(8, .long u2), (6, .long v15), (4, .long u4), (17, .long v16), (15, .long v15), (13, .long v14), (12, .int u1), (10, .long u2), (2, .long a1)]) rfl (fun ls hl => ?_)
          refine lv_lload hx hb d_K_inverse_68 (lv_at hl 3 rfl) ?_
          refine lv_lstore hx hb d_K_inverse_70 hl (by decide) (lv' := [(10, .long v16), (8, .long u2), (6, .long v15), (4, .long u4), (17, .long v16), (15, .long v15), (13, .long v14), (12, .int u1), (2, .long a1)]) rfl (fun ls hl => ?_)
          obtain ⟨v17, e_v17, hF⟩ := Option.bind_eq_some_iff.mp hF
          refine lv_iinc hx hb d_K_inverse_72 hl (k := 7) (v := v17) rfl ((show _ = u1 + 1 from rfl).trans (Option.some.inj e_v17)) (by decide) (lv' := [(12, .int v17), (10, .long v16), (8, .long u2), (6, .long v15), (4, .long u4), (17, .long v16), (15, .long v15), (13, .long v14), (2, .long a1)]) rfl (fun ls hl => ?_)
          refine lv_goto hx hb d_K_inverse_75 (tgt := 15) (by decide) ?_
          exact ih v17 v16 u2 v15 u4 ls (lv_sub hl [0, 1, 2, 3, 4, 8] rfl) hF
  exact k6 65 0 1 0 a0 a1 ls (lv_sub hl [0, 1, 2, 3, 4, 6] rfl) q18
def f_K_movedSecret (a0 : Int64) (a1 : Int64) (a2 : Int32) : Option Int64 := if (lg_cmp a0 0) = 0 then (some (0)) else (Option.bind (if a2 = 0 then (some (a0 + a1) : Option (Int64)) else (some (a0 * a1))) (fun j1 => some (j1 - j1 / 1073729077 * 1073729077)))
abbrev rm_K_movedSecret : Room := { frames := 0, cells := 0, slots := 0, locals := 0 }
set_option maxHeartbeats 4000000 in
set_option maxRecDepth 100000 in
theorem k_K_movedSecret (l : Launch) (a0 : Int64) (a1 : Int64) (a2 : Int32) (r : Int64) (hF : f_K_movedSecret a0 a1 a2 = some r) : Met l y_K_movedSecret (Cond.code y_K_movedSecret b_K_movedSecret 5 (some .long) :: wa) rm_K_movedSecret (pcs [.long a0, .long a1, .int a2]) (vp_Sl (fun z => z = r)) 0 0 (fun _ => False) := by
  refine Met.ofW (cc := b_K_movedSecret) (maxL := 5) (ret := (some .long)) (by decide) rfl ?_
  intro p e s m args below meth c s₁ B hml hv
  obtain ⟨rfl, hN⟩ := hv
  have hx := B.exec
  have hb := B.bytes
  have hr := B.returns
  have hts := atoms_spec (ws := Cond.code y_K_movedSecret b_K_movedSecret 5 (some .long) :: wa) B.pre
  have hw : ∀ w ∈ wa, w.before _ s = true := fun w h => hts w (List.mem_cons_of_mem _ h)
  have hown : s.vm.findClass R_K = some m.cls := findClass_of_methodNamed B.named
  have hlocks := B.notSynchronized
  have hl := lv_entry ([.long a0, .long a1, .int a2]) (n := 5) (Nat.le_of_ble_eq_true rfl)
  rw [lg_entry_eq]
  generalize (lg_sl ([.long a0, .long a1, .int a2]) ++ List.replicate (5 - (lg_sl ([.long a0, .long a1, .int a2])).length) Slot.unset).toArray = ls at hl ⊢
  have hl : lv_has ls 5 [(0, .long a0), (2, .long a1), (4, .int a2)] := hl
  unfold f_K_movedSecret at hF
  refine lv_lload_n hx hb d_K_movedSecret_0 rfl (lv_at hl 0 rfl) ?_
  refine lv_lconst (v := 0) hx hb d_K_movedSecret_1 (by decide) ?_
  refine W.lcmp hx hb d_K_movedSecret_2 ?_
  refine lv_if_ne hx hb d_K_movedSecret_3 (tgt := 8) (by decide) (fun h9 => ?_) (fun h9 => ?_)
  · have hF := (if_neg h9).symm.trans hF
    refine lv_iload hx hb d_K_movedSecret_8 (lv_at hl 2 rfl) ?_
    obtain ⟨j1, q3, hF⟩ := Option.bind_eq_some_iff.mp hF
    have k2 : ∀ (ls : Array Slot), lv_has ls 5 [] → W p l e rm_K_movedSecret s m ([Value.long a0, Value.long a1, Value.int a2] : List Value).toArray below meth c s.heap [] 0 0 (MQ below (vp_Sl (fun z => z = r)) ([Value.long a0, Value.long a1, Value.int a2] : List Value).toArray s 0 0 (fun _ => False)) (F0 m 22 ls [.long j1]) := by
      intro ls hl
      refine lv_ldc2 (v := 1073729077) hx hb hown (hw _ ww_146) d_K_movedSecret_22 ?_
      refine lv_lrem hx hb d_K_movedSecret_25 (by decide) ?_
      obtain rfl := Option.some.inj hF
      exact W.lret hx hb hr (fun t ht hW => ⟨_, rfl, rfl, ht⟩) (fun _ h => nomatch h) d_K_movedSecret_26
    clear hF
    have hF := q3
    refine lv_if_eq hx hb d_K_movedSecret_10 (tgt := 19) (by decide) (fun h9 => ?_) (fun h9 => ?_)
    · have hF := (if_pos h9).symm.trans hF
      refine lv_lload_n hx hb d_K_movedSecret_19 rfl (lv_at hl 0 rfl) ?_
      refine lv_lload_n hx hb d_K_movedSecret_20 rfl (lv_at hl 1 rfl) ?_
      refine lv_ladd hx hb d_K_movedSecret_21 ?_
      obtain rfl := Option.some.inj hF
      exact k2 ls (lv_sub hl [] rfl)
    · have hF := (if_neg h9).symm.trans hF
      refine lv_lload_n hx hb d_K_movedSecret_13 rfl (lv_at hl 0 rfl) ?_
      refine lv_lload_n hx hb d_K_movedSecret_14 rfl (lv_at hl 1 rfl) ?_
      refine lv_lmul hx hb d_K_movedSecret_15 ?_
      refine lv_goto hx hb d_K_movedSecret_16 (tgt := 22) (by decide) ?_
      obtain rfl := Option.some.inj hF
      exact k2 ls (lv_sub hl [] rfl)
  · have hF := (if_pos h9).symm.trans hF
    refine lv_lconst (v := 0) hx hb d_K_movedSecret_6 (by decide) ?_
    obtain rfl := Option.some.inj hF
    exact W.lret hx hb hr (fun t ht hW => ⟨_, rfl, rfl, ht⟩) (fun _ h => nomatch h) d_K_movedSecret_7
def f_F_has (a0 : Int64) : Option Int32 := Option.bind (if (lg_cmp a0 0) < 0 then (some (0) : Option (Int32)) else (if 0 ≤ (lg_cmp a0 1073735023) then (some (0)) else (some (1)))) (fun j1 => some (j1))
abbrev rm_F_has : Room := { frames := 0, cells := 0, slots := 0, locals := 0 }
set_option maxHeartbeats 4000000 in
set_option maxRecDepth 100000 in
theorem k_F_has (l : Launch) (a0 : Int64) (r : Int32) (hF : f_F_has a0 = some r) : Met l y_F_has (Cond.code y_F_has b_F_has 2 (some .boolean) :: wa) rm_F_has (pcs [.long a0]) (vp_Si (fun z => z = r)) 0 0 (fun _ => False) := by
  refine Met.ofW (cc := b_F_has) (maxL := 2) (ret := (some .boolean)) (by decide) rfl ?_
  intro p e s m args below meth c s₁ B hml hv
  obtain ⟨rfl, hN⟩ := hv
  have hx := B.exec
  have hb := B.bytes
  have hr := B.returns
  have hts := atoms_spec (ws := Cond.code y_F_has b_F_has 2 (some .boolean) :: wa) B.pre
  have hw : ∀ w ∈ wa, w.before _ s = true := fun w h => hts w (List.mem_cons_of_mem _ h)
  have hown : s.vm.findClass R_F = some m.cls := findClass_of_methodNamed B.named
  have hlocks := B.notSynchronized
  have hl := lv_entry ([.long a0]) (n := 2) (Nat.le_of_ble_eq_true rfl)
  rw [lg_entry_eq]
  generalize (lg_sl ([.long a0]) ++ List.replicate (2 - (lg_sl ([.long a0])).length) Slot.unset).toArray = ls at hl ⊢
  have hl : lv_has ls 2 [(0, .long a0)] := hl
  unfold f_F_has at hF
  refine lv_lload_n hx hb d_F_has_0 rfl (lv_at hl 0 rfl) ?_
  refine lv_lconst (v := 0) hx hb d_F_has_1 (by decide) ?_
  refine W.lcmp hx hb d_F_has_2 ?_
  obtain ⟨j1, q3, hF⟩ := Option.bind_eq_some_iff.mp hF
  have z_j1 : j1 = 0 ∨ j1 = 1 := by
    have h := q3
    (repeat' (split at h)) <;> (obtain rfl := Option.some.inj h; first | exact Or.inl rfl | exact Or.inr rfl)
  have k2 : ∀ (ls : Array Slot), lv_has ls 2 [] → W p l e rm_F_has s m ([Value.long a0] : List Value).toArray below meth c s.heap [] 0 0 (MQ below (vp_Si (fun z => z = r)) ([Value.long a0] : List Value).toArray s 0 0 (fun _ => False)) (F0 m 19 ls [.int j1]) := by
    intro ls hl
    obtain rfl := Option.some.inj hF
    exact W.zret hx hb hr (nz_b z_j1) (fun t ht hW => ⟨_, rfl, rfl, ht⟩) (fun _ h => nomatch h) d_F_has_19
  clear hF
  have hF := q3
  refine lv_if_lt hx hb d_F_has_3 (tgt := 18) (by decide) (fun h9 => ?_) (fun h9 => ?_)
  · have hF := (if_pos h9).symm.trans hF
    refine lv_iconst (v := 0) hx hb d_F_has_18 (by decide) ?_
    obtain rfl := Option.some.inj hF
    exact k2 ls (lv_sub hl [] rfl)
  · have hF := (if_neg h9).symm.trans hF
    refine lv_lload_n hx hb d_F_has_6 rfl (lv_at hl 0 rfl) ?_
    refine lv_ldc2 (v := 1073735023) hx hb hown (hw _ ww_88) d_F_has_7 ?_
    refine W.lcmp hx hb d_F_has_10 ?_
    refine lv_if_ge hx hb d_F_has_11 (tgt := 18) (by decide) (fun h9 => ?_) (fun h9 => ?_)
    · have hF := (if_pos h9).symm.trans hF
      refine lv_iconst (v := 0) hx hb d_F_has_18 (by decide) ?_
      obtain rfl := Option.some.inj hF
      exact k2 ls (lv_sub hl [] rfl)
    · have hF := (if_neg h9).symm.trans hF
      refine lv_iconst (v := 1) hx hb d_F_has_14 (by decide) ?_
      refine lv_goto hx hb d_F_has_15 (tgt := 19) (by decide) ?_
      obtain rfl := Option.some.inj hF
      exact k2 ls (lv_sub hl [] rfl)
def f_F_reduced (a0 : Int64) : Option Int64 := Option.bind (some (a0 - a0 / 1073735023 * 1073735023)) (fun v1 => Option.bind (if 0 ≤ (lg_cmp v1 0) then (some (v1) : Option (Int64)) else (some (v1 + 1073735023))) (fun j2 => some (j2)))
abbrev rm_F_reduced : Room := { frames := 0, cells := 0, slots := 0, locals := 0 }
set_option maxHeartbeats 4000000 in
set_option maxRecDepth 100000 in
theorem k_F_reduced (l : Launch) (a0 : Int64) (r : Int64) (hF : f_F_reduced a0 = some r) : Met l y_F_reduced (Cond.code y_F_reduced b_F_reduced 4 (some .long) :: wa) rm_F_reduced (pcs [.long a0]) (vp_Sl (fun z => z = r)) 0 0 (fun _ => False) := by
  refine Met.ofW (cc := b_F_reduced) (maxL := 4) (ret := (some .long)) (by decide) rfl ?_
  intro p e s m args below meth c s₁ B hml hv
  obtain ⟨rfl, hN⟩ := hv
  have hx := B.exec
  have hb := B.bytes
  have hr := B.returns
  have hts := atoms_spec (ws := Cond.code y_F_reduced b_F_reduced 4 (some .long) :: wa) B.pre
  have hw : ∀ w ∈ wa, w.before _ s = true := fun w h => hts w (List.mem_cons_of_mem _ h)
  have hown : s.vm.findClass R_F = some m.cls := findClass_of_methodNamed B.named
  have hlocks := B.notSynchronized
  have hl := lv_entry ([.long a0]) (n := 4) (Nat.le_of_ble_eq_true rfl)
  rw [lg_entry_eq]
  generalize (lg_sl ([.long a0]) ++ List.replicate (4 - (lg_sl ([.long a0])).length) Slot.unset).toArray = ls at hl ⊢
  have hl : lv_has ls 4 [(0, .long a0)] := hl
  unfold f_F_reduced at hF
  refine lv_lload_n hx hb d_F_reduced_0 rfl (lv_at hl 0 rfl) ?_
  refine lv_ldc2 (v := 1073735023) hx hb hown (hw _ ww_88) d_F_reduced_1 ?_
  refine lv_lrem hx hb d_F_reduced_4 (by decide) ?_
  obtain ⟨v1, e_v1, hF⟩ := Option.bind_eq_some_iff.mp hF
  refine nm_l (Option.some.inj e_v1) ?_
  refine lv_lstore_n hx hb d_F_reduced_5 rfl hl (by decide) (lv' := [(2, .long v1), (0, .long a0)]) rfl (fun ls hl => ?_)
  refine lv_lload_n hx hb d_F_reduced_6 rfl (lv_at hl 0 rfl) ?_
  refine lv_lconst (v := 0) hx hb d_F_reduced_7 (by decide) ?_
  refine W.lcmp hx hb d_F_reduced_8 ?_
  obtain ⟨j2, q4, hF⟩ := Option.bind_eq_some_iff.mp hF
  have k3 : ∀ (ls : Array Slot), lv_has ls 4 [] → W p l e rm_F_reduced s m ([Value.long a0] : List Value).toArray below meth c s.heap [] 0 0 (MQ below (vp_Sl (fun z => z = r)) ([Value.long a0] : List Value).toArray s 0 0 (fun _ => False)) (F0 m 21 ls [.long j2]) := by
    intro ls hl
    obtain rfl := Option.some.inj hF
    exact W.lret hx hb hr (fun t ht hW => ⟨_, rfl, rfl, ht⟩) (fun _ h => nomatch h) d_F_reduced_21
  clear hF
  have hF := q4
  refine lv_if_ge hx hb d_F_reduced_9 (tgt := 20) (by decide) (fun h9 => ?_) (fun h9 => ?_)
  · have hF := (if_pos h9).symm.trans hF
    refine lv_lload_n hx hb d_F_reduced_20 rfl (lv_at hl 0 rfl) ?_
    obtain rfl := Option.some.inj hF
    exact k3 ls (lv_sub hl [] rfl)
  · have hF := (if_neg h9).symm.trans hF
    refine lv_lload_n hx hb d_F_reduced_12 rfl (lv_at hl 0 rfl) ?_
    refine lv_ldc2 (v := 1073735023) hx hb hown (hw _ ww_88) d_F_reduced_13 ?_
    refine lv_ladd hx hb d_F_reduced_16 ?_
    refine lv_goto hx hb d_F_reduced_17 (tgt := 21) (by decide) ?_
    obtain rfl := Option.some.inj hF
    exact k3 ls (lv_sub hl [] rfl)
def f_F_quotient (a0 : Int64) (a1 : Int64) : Option Int64 := Option.bind (f_F_reduced a0) (fun r1 => Option.bind (f_F_reduced a1) (fun r2 => Option.bind (f_K_inverse r2 1073735023) (fun r3 => some ((r1 * r3) - (r1 * r3) / 1073735023 * 1073735023))))
abbrev rm_F_quotient : Room := { frames := 1, cells := 0, slots := 0, locals := 38 }
set_option maxHeartbeats 4000000 in
set_option maxRecDepth 100000 in
theorem k_F_quotient (l : Launch) (a0 : Int64) (a1 : Int64) (r : Int64) (hF : f_F_quotient a0 a1 = some r) : Met l y_F_quotient (Cond.code y_F_quotient b_F_quotient 4 (some .long) :: wa) rm_F_quotient (pcs [.long a0, .long a1]) (vp_Sl (fun z => z = r)) 0 0 (fun _ => False) := by
  refine Met.ofW (cc := b_F_quotient) (maxL := 4) (ret := (some .long)) (by decide) rfl ?_
  intro p e s m args below meth c s₁ B hml hv
  obtain ⟨rfl, hN⟩ := hv
  have hx := B.exec
  have hb := B.bytes
  have hr := B.returns
  have hts := atoms_spec (ws := Cond.code y_F_quotient b_F_quotient 4 (some .long) :: wa) B.pre
  have hw : ∀ w ∈ wa, w.before _ s = true := fun w h => hts w (List.mem_cons_of_mem _ h)
  have hown : s.vm.findClass R_F = some m.cls := findClass_of_methodNamed B.named
  have hlocks := B.notSynchronized
  have hl := lv_entry ([.long a0, .long a1]) (n := 4) (Nat.le_of_ble_eq_true rfl)
  rw [lg_entry_eq]
  generalize (lg_sl ([.long a0, .long a1]) ++ List.replicate (4 - (lg_sl ([.long a0, .long a1])).length) Slot.unset).toArray = ls at hl ⊢
  have hl : lv_has ls 4 [(0, .long a0), (2, .long a1)] := hl
  unfold f_F_quotient at hF
  refine lv_lload_n hx hb d_F_quotient_0 rfl (lv_at hl 0 rfl) ?_
  obtain ⟨r1, e_r1, hF⟩ := Option.bind_eq_some_iff.mp hF
  refine vp_callSl (va_runS (As := [.long a0]) (rest := []) ⟨hx, hb, hml, hown, hts⟩ (k_F_reduced l a0 r1 e_r1) (va_cwS 1 hts (ga_S ww_161 ww_162 ww_12 ww_163) rfl rfl rfl (by decide +kernel) ⟨by decide, by decide⟩) (pcs_pre hN) rfl rfl hl.1 rfl (lv_room (Nat.le_of_ble_eq_true rfl)) d_F_quotient_1 ⟨Nat.zero_le _, Nat.zero_le _⟩).run (fun z9 hz9 => ?_)
  obtain rfl : r1 = z9 := hz9.symm
  refine lv_lload_n hx hb d_F_quotient_4 rfl (lv_at hl 1 rfl) ?_
  obtain ⟨r2, e_r2, hF⟩ := Option.bind_eq_some_iff.mp hF
  refine vp_callSl (va_runS (As := [.long a1]) (rest := [.long r1]) ⟨hx, hb, hml, hown, hts⟩ (k_F_reduced l a1 r2 e_r2) (va_cwS 1 hts (ga_S ww_161 ww_162 ww_12 ww_163) rfl rfl rfl (by decide +kernel) ⟨by decide, by decide⟩) (pcs_pre hN) rfl rfl hl.1 rfl (lv_room (Nat.le_of_ble_eq_true rfl)) d_F_quotient_5 ⟨Nat.zero_le _, Nat.zero_le _⟩).run (fun z9 hz9 => ?_)
  obtain rfl : r2 = z9 := hz9.symm
  refine lv_ldc2 (v := 1073735023) hx hb hown (hw _ ww_88) d_F_quotient_8 ?_
  obtain ⟨r3, e_r3, hF⟩ := Option.bind_eq_some_iff.mp hF
  refine vp_callSl (va_runSN (As := [.long r2, .long 1073735023]) (rest := [.long r1]) ⟨hx, hb, hml, hown, hts⟩ (k_K_inverse l r2 1073735023 r3 e_r3) ⟨va_cnB 2 hts (ga_N ww_166) rfl rfl rfl (hN _ nl_4) (hw _ ww_1) (by decide +kernel) ⟨by decide, by decide⟩, hw _ ww_165, trivial⟩ (pcs_pre hN) rfl rfl hl.1 rfl (lv_room (Nat.le_of_ble_eq_true rfl)) d_F_quotient_11 ⟨Nat.zero_le _, Nat.zero_le _⟩).run (fun z9 hz9 => ?_)
  obtain rfl : r3 = z9 := hz9.symm
  refine lv_lmul hx hb d_F_quotient_14 ?_
  refine lv_ldc2 (v := 1073735023) hx hb hown (hw _ ww_88) d_F_quotient_15 ?_
  refine lv_lrem hx hb d_F_quotient_18 (by decide) ?_
  obtain rfl := Option.some.inj hF
  exact W.lret hx hb hr (fun t ht hW => ⟨_, rfl, rfl, ht⟩) (fun _ h => nomatch h) d_F_quotient_19
def f_F_rootIfAny_11 (a0 : Int64) : Nat → Int32 → Int64 → Option (Int32 × Int64)
  | 0, _, _ => none
  | n + 1, u1, u2 => if u1 < 0 then (some (u1, u2)) else (Option.bind (some ((u2 * u2) - (u2 * u2) / 1073735023 * 1073735023)) (fun v7 => Option.bind (if (lg_cmp (((Int64.toUInt64 268433756 >>> ((Int32.toInt64 u1).toUInt64 &&& Int64.toUInt64 63)).toInt64) &&& 1) 1) = 0 then (Option.bind (some ((v7 * a0) - (v7 * a0) / 1073735023 * 1073735023)) (fun v13 => some (v13)) : Option (Int64)) else (some (v7))) (fun j8 => Option.bind (some (u1 + (-1))) (fun v12 => f_F_rootIfAny_11 a0 n v12 j8))))
def f_F_rootIfAny (a0 : Int64) : Option Int64 := Option.bind (f_F_rootIfAny_11 a0 64 29 1) (fun t15 => match t15 with | (o4, o5) => (some (o5)))
abbrev rm_F_rootIfAny : Room := { frames := 0, cells := 0, slots := 0, locals := 0 }
set_option maxHeartbeats 4000000 in
set_option maxRecDepth 100000 in
theorem k_F_rootIfAny (l : Launch) (a0 : Int64) (r : Int64) (hF : f_F_rootIfAny a0 = some r) : Met l y_F_rootIfAny (Cond.code y_F_rootIfAny b_F_rootIfAny 7 (some .long) :: wa) rm_F_rootIfAny (pcs [.long a0]) (vp_Sl (fun z => z = r)) 0 0 (fun _ => False) := by
  refine Met.ofW (cc := b_F_rootIfAny) (maxL := 7) (ret := (some .long)) (by decide) rfl ?_
  intro p e s m args below meth c s₁ B hml hv
  obtain ⟨rfl, hN⟩ := hv
  have hx := B.exec
  have hb := B.bytes
  have hr := B.returns
  have hts := atoms_spec (ws := Cond.code y_F_rootIfAny b_F_rootIfAny 7 (some .long) :: wa) B.pre
  have hw : ∀ w ∈ wa, w.before _ s = true := fun w h => hts w (List.mem_cons_of_mem _ h)
  have hown : s.vm.findClass R_F = some m.cls := findClass_of_methodNamed B.named
  have hlocks := B.notSynchronized
  have hl := lv_entry ([.long a0]) (n := 7) (Nat.le_of_ble_eq_true rfl)
  rw [lg_entry_eq]
  generalize (lg_sl ([.long a0]) ++ List.replicate (7 - (lg_sl ([.long a0])).length) Slot.unset).toArray = ls at hl ⊢
  have hl : lv_has ls 7 [(0, .long a0)] := hl
  unfold f_F_rootIfAny at hF
  refine lv_ldc2 (v := 268433756) hx hb hown (hw _ ww_94) d_F_rootIfAny_0 ?_
  refine lv_lstore_n hx hb d_F_rootIfAny_3 rfl hl (by decide) (lv' := [(2, .long 268433756), (0, .long a0)]) rfl (fun ls hl => ?_)
  refine lv_lconst (v := 1) hx hb d_F_rootIfAny_4 (by decide) ?_
  refine lv_lstore hx hb d_F_rootIfAny_5 hl (by decide) (lv' := [(4, .long 1), (2, .long 268433756), (0, .long a0)]) rfl (fun ls hl => ?_)
  refine lv_bipush (v := 29) hx hb d_F_rootIfAny_7 (by decide) ?_
  refine lv_istore hx hb d_F_rootIfAny_9 hl (by decide) (lv' := [(6, .int 29), (4, .long 1), (2, .long 268433756), (0, .long a0)]) rfl (fun ls hl => ?_)
  obtain ⟨⟨o4, o5⟩, q14, hF⟩ := Option.bind_eq_some_iff.mp hF
  have k6 : ∀ (ls : Array Slot), lv_has ls 7 [(6, .int o4), (4, .long o5), (2, .long 268433756), (0, .long a0)] → W p l e rm_F_rootIfAny s m ([Value.long a0] : List Value).toArray below meth c s.heap [] 0 0 (MQ below (vp_Sl (fun z => z = r)) ([Value.long a0] : List Value).toArray s 0 0 (fun _ => False)) (F0 m 54 ls []) := by
    intro ls hl
    refine lv_lload hx hb d_F_rootIfAny_54 (lv_at hl 1 rfl) ?_
    obtain rfl := Option.some.inj hF
    exact W.lret hx hb hr (fun t ht hW => ⟨_, rfl, rfl, ht⟩) (fun _ h => nomatch h) d_F_rootIfAny_56
  clear hF
  have k3 : ∀ (n : Nat) (u1 : Int32) (u2 : Int64) (ls : Array Slot), lv_has ls 7 [(6, .int u1), (4, .long u2), (2, .long 268433756), (0, .long a0)] → f_F_rootIfAny_11 a0 n u1 u2 = some (o4, o5) → W p l e rm_F_rootIfAny s m ([Value.long a0] : List Value).toArray below meth c s.heap [] 0 0 (MQ below (vp_Sl (fun z => z = r)) ([Value.long a0] : List Value).toArray s 0 0 (fun _ => False)) (F0 m 11 ls []) := by
    intro n
    induction n with
    | zero => intro u1 u2 ls hl hF; cases hF
    | succ n ih =>
      intro u1 u2 ls hl hF
      rw [f_F_rootIfAny_11] at hF
      refine lv_iload hx hb d_F_rootIfAny_11 (lv_at hl 0 rfl) ?_
      refine lv_if_lt hx hb d_F_rootIfAny_13 (tgt := 54) (by decide) (fun h9 => ?_) (fun h9 => ?_)
      · have hF := (if_pos h9).symm.trans hF
        cases Option.some.inj hF
        exact k6 ls (lv_sub hl [0, 1, 2, 3] rfl)
      · have hF := (if_neg h9).symm.trans hF
        refine lv_lload hx hb d_F_rootIfAny_16 (lv_at hl 1 rfl) ?_
        refine lv_lload hx hb d_F_rootIfAny_18 (lv_at hl 1 rfl) ?_
        refine lv_lmul hx hb d_F_rootIfAny_20 ?_
        refine lv_ldc2 (v := 1073735023) hx hb hown (hw _ ww_88) d_F_rootIfAny_21 ?_
        refine lv_lrem hx hb d_F_rootIfAny_24 (by decide) ?_
        obtain ⟨v7, e_v7, hF⟩ := Option.bind_eq_some_iff.mp hF
        refine nm_l (Option.some.inj e_v7) ?_
        refine lv_lstore hx hb d_F_rootIfAny_25 hl (by decide) (lv' := [(4, .long v7), (6, .int u1), (2, .long 268433756), (0, .long a0)]) rfl (fun ls hl => ?_)
        refine lv_lload_n hx hb d_F_rootIfAny_27 rfl (lv_at hl 2 rfl) ?_
        refine lv_iload hx hb d_F_rootIfAny_28 (lv_at hl 1 rfl) ?_
        refine lv_lushr (v := (Int64.toUInt64 268433756 >>> ((Int32.toInt64 u1).toUInt64 &&& Int64.toUInt64 63)).toInt64) hx hb d_F_rootIfAny_30 rfl ?_
        refine lv_lconst (v := 1) hx hb d_F_rootIfAny_31 (by decide) ?_
        refine lv_land hx hb d_F_rootIfAny_32 ?_
        refine lv_lconst (v := 1) hx hb d_F_rootIfAny_33 (by decide) ?_
        refine W.lcmp hx hb d_F_rootIfAny_34 ?_
        obtain ⟨j8, q10, hF⟩ := Option.bind_eq_some_iff.mp hF
        have k9 : ∀ (ls : Array Slot), lv_has ls 7 [(4, .long j8), (6, .int u1), (2, .long 268433756), (0, .long a0)] → W p l e rm_F_rootIfAny s m ([Value.long a0] : List Value).toArray below meth c s.heap [] 0 0 (MQ below (vp_Sl (fun z => z = r)) ([Value.long a0] : List Value).toArray s 0 0 (fun _ => False)) (F0 m 48 ls []) := by
          intro ls hl
          obtain ⟨v12, e_v12, hF⟩ := Option.bind_eq_some_iff.mp hF
          refine lv_iinc hx hb d_F_rootIfAny_48 hl (k := 1) (v := v12) rfl ((show _ = u1 + (-1) from rfl).trans (Option.some.inj e_v12)) (by decide) (lv' := [(6, .int v12), (4, .long j8), (2, .long 268433756), (0, .long a0)]) rfl (fun ls hl => ?_)
          refine lv_goto hx hb d_F_rootIfAny_51 (tgt := 11) (by decide) ?_
          exact ih v12 j8 ls (lv_sub hl [0, 1, 2, 3] rfl) hF
        clear hF
        have hF := q10
        refine lv_if_ne hx hb d_F_rootIfAny_35 (tgt := 48) (by decide) (fun h9 => ?_) (fun h9 => ?_)
        · have hF := (if_neg h9).symm.trans hF
          obtain rfl := Option.some.inj hF
          exact k9 ls (lv_sub hl [0, 1, 2, 3] rfl)
        · have hF := (if_pos h9).symm.trans hF
          refine lv_lload hx hb d_F_rootIfAny_38 (lv_at hl 0 rfl) ?_
          refine lv_lload_n hx hb d_F_rootIfAny_40 rfl (lv_at hl 3 rfl) ?_
          refine lv_lmul hx hb d_F_rootIfAny_41 ?_
          refine lv_ldc2 (v := 1073735023) hx hb hown (hw _ ww_88) d_F_rootIfAny_42 ?_
          refine lv_lrem hx hb d_F_rootIfAny_45 (by decide) ?_
          obtain ⟨v13, e_v13, hF⟩ := Option.bind_eq_some_iff.mp hF
          refine nm_l (Option.some.inj e_v13) ?_
          refine lv_lstore hx hb d_F_rootIfAny_46 hl (by decide) (lv' := [(4, .long v13), (6, .int u1), (2, .long 268433756), (0, .long a0)]) rfl (fun ls hl => ?_)
          obtain rfl := Option.some.inj hF
          exact k9 ls (lv_sub hl [0, 1, 2, 3] rfl)
  exact k3 64 29 1 ls (lv_sub hl [0, 1, 2, 3] rfl) q14
def f_S_has (a0 : Int64) : Option Int32 := Option.bind (if (lg_cmp a0 0) < 0 then (some (0) : Option (Int32)) else (if 0 ≤ (lg_cmp a0 1073729077) then (some (0)) else (some (1)))) (fun j1 => some (j1))
abbrev rm_S_has : Room := { frames := 0, cells := 0, slots := 0, locals := 0 }
set_option maxHeartbeats 4000000 in
set_option maxRecDepth 100000 in
theorem k_S_has (l : Launch) (a0 : Int64) (r : Int32) (hF : f_S_has a0 = some r) : Met l y_S_has (Cond.code y_S_has b_S_has 2 (some .boolean) :: wa) rm_S_has (pcs [.long a0]) (vp_Si (fun z => z = r)) 0 0 (fun _ => False) := by
  refine Met.ofW (cc := b_S_has) (maxL := 2) (ret := (some .boolean)) (by decide) rfl ?_
  intro p e s m args below meth c s₁ B hml hv
  obtain ⟨rfl, hN⟩ := hv
  have hx := B.exec
  have hb := B.bytes
  have hr := B.returns
  have hts := atoms_spec (ws := Cond.code y_S_has b_S_has 2 (some .boolean) :: wa) B.pre
  have hw : ∀ w ∈ wa, w.before _ s = true := fun w h => hts w (List.mem_cons_of_mem _ h)
  have hown : s.vm.findClass R_S = some m.cls := findClass_of_methodNamed B.named
  have hlocks := B.notSynchronized
  have hl := lv_entry ([.long a0]) (n := 2) (Nat.le_of_ble_eq_true rfl)
  rw [lg_entry_eq]
  generalize (lg_sl ([.long a0]) ++ List.replicate (2 - (lg_sl ([.long a0])).length) Slot.unset).toArray = ls at hl ⊢
  have hl : lv_has ls 2 [(0, .long a0)] := hl
  unfold f_S_has at hF
  refine lv_lload_n hx hb d_S_has_0 rfl (lv_at hl 0 rfl) ?_
  refine lv_lconst (v := 0) hx hb d_S_has_1 (by decide) ?_
  refine W.lcmp hx hb d_S_has_2 ?_
  obtain ⟨j1, q3, hF⟩ := Option.bind_eq_some_iff.mp hF
  have z_j1 : j1 = 0 ∨ j1 = 1 := by
    have h := q3
    (repeat' (split at h)) <;> (obtain rfl := Option.some.inj h; first | exact Or.inl rfl | exact Or.inr rfl)
  have k2 : ∀ (ls : Array Slot), lv_has ls 2 [] → W p l e rm_S_has s m ([Value.long a0] : List Value).toArray below meth c s.heap [] 0 0 (MQ below (vp_Si (fun z => z = r)) ([Value.long a0] : List Value).toArray s 0 0 (fun _ => False)) (F0 m 19 ls [.int j1]) := by
    intro ls hl
    obtain rfl := Option.some.inj hF
    exact W.zret hx hb hr (nz_b z_j1) (fun t ht hW => ⟨_, rfl, rfl, ht⟩) (fun _ h => nomatch h) d_S_has_19
  clear hF
  have hF := q3
  refine lv_if_lt hx hb d_S_has_3 (tgt := 18) (by decide) (fun h9 => ?_) (fun h9 => ?_)
  · have hF := (if_pos h9).symm.trans hF
    refine lv_iconst (v := 0) hx hb d_S_has_18 (by decide) ?_
    obtain rfl := Option.some.inj hF
    exact k2 ls (lv_sub hl [] rfl)
  · have hF := (if_neg h9).symm.trans hF
    refine lv_lload_n hx hb d_S_has_6 rfl (lv_at hl 0 rfl) ?_
    refine lv_ldc2 (v := 1073729077) hx hb hown (hw _ ww_128) d_S_has_7 ?_
    refine W.lcmp hx hb d_S_has_10 ?_
    refine lv_if_ge hx hb d_S_has_11 (tgt := 18) (by decide) (fun h9 => ?_) (fun h9 => ?_)
    · have hF := (if_pos h9).symm.trans hF
      refine lv_iconst (v := 0) hx hb d_S_has_18 (by decide) ?_
      obtain rfl := Option.some.inj hF
      exact k2 ls (lv_sub hl [] rfl)
    · have hF := (if_neg h9).symm.trans hF
      refine lv_iconst (v := 1) hx hb d_S_has_14 (by decide) ?_
      refine lv_goto hx hb d_S_has_15 (tgt := 19) (by decide) ?_
      obtain rfl := Option.some.inj hF
      exact k2 ls (lv_sub hl [] rfl)
def f_S_isUnit (a0 : Int64) : Option Int32 := Option.bind (if (lg_cmp a0 1) < 0 then (some (0) : Option (Int32)) else (if 0 ≤ (lg_cmp a0 1073729077) then (some (0)) else (some (1)))) (fun j1 => some (j1))
abbrev rm_S_isUnit : Room := { frames := 0, cells := 0, slots := 0, locals := 0 }
set_option maxHeartbeats 4000000 in
set_option maxRecDepth 100000 in
theorem k_S_isUnit (l : Launch) (a0 : Int64) (r : Int32) (hF : f_S_isUnit a0 = some r) : Met l y_S_isUnit (Cond.code y_S_isUnit b_S_isUnit 2 (some .boolean) :: wa) rm_S_isUnit (pcs [.long a0]) (vp_Si (fun z => z = r)) 0 0 (fun _ => False) := by
  refine Met.ofW (cc := b_S_isUnit) (maxL := 2) (ret := (some .boolean)) (by decide) rfl ?_
  intro p e s m args below meth c s₁ B hml hv
  obtain ⟨rfl, hN⟩ := hv
  have hx := B.exec
  have hb := B.bytes
  have hr := B.returns
  have hts := atoms_spec (ws := Cond.code y_S_isUnit b_S_isUnit 2 (some .boolean) :: wa) B.pre
  have hw : ∀ w ∈ wa, w.before _ s = true := fun w h => hts w (List.mem_cons_of_mem _ h)
  have hown : s.vm.findClass R_S = some m.cls := findClass_of_methodNamed B.named
  have hlocks := B.notSynchronized
  have hl := lv_entry ([.long a0]) (n := 2) (Nat.le_of_ble_eq_true rfl)
  rw [lg_entry_eq]
  generalize (lg_sl ([.long a0]) ++ List.replicate (2 - (lg_sl ([.long a0])).length) Slot.unset).toArray = ls at hl ⊢
  have hl : lv_has ls 2 [(0, .long a0)] := hl
  unfold f_S_isUnit at hF
  refine lv_lload_n hx hb d_S_isUnit_0 rfl (lv_at hl 0 rfl) ?_
  refine lv_lconst (v := 1) hx hb d_S_isUnit_1 (by decide) ?_
  refine W.lcmp hx hb d_S_isUnit_2 ?_
  obtain ⟨j1, q3, hF⟩ := Option.bind_eq_some_iff.mp hF
  have z_j1 : j1 = 0 ∨ j1 = 1 := by
    have h := q3
    (repeat' (split at h)) <;> (obtain rfl := Option.some.inj h; first | exact Or.inl rfl | exact Or.inr rfl)
  have k2 : ∀ (ls : Array Slot), lv_has ls 2 [] → W p l e rm_S_isUnit s m ([Value.long a0] : List Value).toArray below meth c s.heap [] 0 0 (MQ below (vp_Si (fun z => z = r)) ([Value.long a0] : List Value).toArray s 0 0 (fun _ => False)) (F0 m 19 ls [.int j1]) := by
    intro ls hl
    obtain rfl := Option.some.inj hF
    exact W.zret hx hb hr (nz_b z_j1) (fun t ht hW => ⟨_, rfl, rfl, ht⟩) (fun _ h => nomatch h) d_S_isUnit_19
  clear hF
  have hF := q3
  refine lv_if_lt hx hb d_S_isUnit_3 (tgt := 18) (by decide) (fun h9 => ?_) (fun h9 => ?_)
  · have hF := (if_pos h9).symm.trans hF
    refine lv_iconst (v := 0) hx hb d_S_isUnit_18 (by decide) ?_
    obtain rfl := Option.some.inj hF
    exact k2 ls (lv_sub hl [] rfl)
  · have hF := (if_neg h9).symm.trans hF
    refine lv_lload_n hx hb d_S_isUnit_6 rfl (lv_at hl 0 rfl) ?_
    refine lv_ldc2 (v := 1073729077) hx hb hown (hw _ ww_128) d_S_isUnit_7 ?_
    refine W.lcmp hx hb d_S_isUnit_10 ?_
    refine lv_if_ge hx hb d_S_isUnit_11 (tgt := 18) (by decide) (fun h9 => ?_) (fun h9 => ?_)
    · have hF := (if_pos h9).symm.trans hF
      refine lv_iconst (v := 0) hx hb d_S_isUnit_18 (by decide) ?_
      obtain rfl := Option.some.inj hF
      exact k2 ls (lv_sub hl [] rfl)
    · have hF := (if_neg h9).symm.trans hF
      refine lv_iconst (v := 1) hx hb d_S_isUnit_14 (by decide) ?_
      refine lv_goto hx hb d_S_isUnit_15 (tgt := 19) (by decide) ?_
      obtain rfl := Option.some.inj hF
      exact k2 ls (lv_sub hl [] rfl)
def f_S_quotient (a0 : Int64) (a1 : Int64) : Option Int64 := Option.bind (f_K_inverse a1 1073729077) (fun r1 => some (((a0 - a0 / 1073729077 * 1073729077) * r1) - ((a0 - a0 / 1073729077 * 1073729077) * r1) / 1073729077 * 1073729077))
abbrev rm_S_quotient : Room := { frames := 1, cells := 0, slots := 0, locals := 38 }
set_option maxHeartbeats 4000000 in
set_option maxRecDepth 100000 in
theorem k_S_quotient (l : Launch) (a0 : Int64) (a1 : Int64) (r : Int64) (hF : f_S_quotient a0 a1 = some r) : Met l y_S_quotient (Cond.code y_S_quotient b_S_quotient 4 (some .long) :: wa) rm_S_quotient (pcs [.long a0, .long a1]) (vp_Sl (fun z => z = r)) 0 0 (fun _ => False) := by
  refine Met.ofW (cc := b_S_quotient) (maxL := 4) (ret := (some .long)) (by decide) rfl ?_
  intro p e s m args below meth c s₁ B hml hv
  obtain ⟨rfl, hN⟩ := hv
  have hx := B.exec
  have hb := B.bytes
  have hr := B.returns
  have hts := atoms_spec (ws := Cond.code y_S_quotient b_S_quotient 4 (some .long) :: wa) B.pre
  have hw : ∀ w ∈ wa, w.before _ s = true := fun w h => hts w (List.mem_cons_of_mem _ h)
  have hown : s.vm.findClass R_S = some m.cls := findClass_of_methodNamed B.named
  have hlocks := B.notSynchronized
  have hl := lv_entry ([.long a0, .long a1]) (n := 4) (Nat.le_of_ble_eq_true rfl)
  rw [lg_entry_eq]
  generalize (lg_sl ([.long a0, .long a1]) ++ List.replicate (4 - (lg_sl ([.long a0, .long a1])).length) Slot.unset).toArray = ls at hl ⊢
  have hl : lv_has ls 4 [(0, .long a0), (2, .long a1)] := hl
  unfold f_S_quotient at hF
  refine lv_lload_n hx hb d_S_quotient_0 rfl (lv_at hl 0 rfl) ?_
  refine lv_ldc2 (v := 1073729077) hx hb hown (hw _ ww_128) d_S_quotient_1 ?_
  refine lv_lrem hx hb d_S_quotient_4 (by decide) ?_
  refine lv_lload_n hx hb d_S_quotient_5 rfl (lv_at hl 1 rfl) ?_
  refine lv_ldc2 (v := 1073729077) hx hb hown (hw _ ww_128) d_S_quotient_6 ?_
  obtain ⟨r1, e_r1, hF⟩ := Option.bind_eq_some_iff.mp hF
  refine vp_callSl (va_runSN (As := [.long a1, .long 1073729077]) (rest := [.long (a0 - a0 / 1073729077 * 1073729077)]) ⟨hx, hb, hml, hown, hts⟩ (k_K_inverse l a1 1073729077 r1 e_r1) ⟨va_cnB 2 hts (ga_N ww_166) rfl rfl rfl (hN _ nl_5) (hw _ ww_1) (by decide +kernel) ⟨by decide, by decide⟩, hw _ ww_165, trivial⟩ (pcs_pre hN) rfl rfl hl.1 rfl (lv_room (Nat.le_of_ble_eq_true rfl)) d_S_quotient_9 ⟨Nat.zero_le _, Nat.zero_le _⟩).run (fun z9 hz9 => ?_)
  obtain rfl : r1 = z9 := hz9.symm
  refine lv_lmul hx hb d_S_quotient_12 ?_
  refine lv_ldc2 (v := 1073729077) hx hb hown (hw _ ww_128) d_S_quotient_13 ?_
  refine lv_lrem hx hb d_S_quotient_16 (by decide) ?_
  obtain rfl := Option.some.inj hF
  exact W.lret hx hb hr (fun t ht hW => ⟨_, rfl, rfl, ht⟩) (fun _ h => nomatch h) d_S_quotient_17
def f_C_xOf (a0 : Int64) : Option Int64 := some (a0 / 4294967296)
abbrev rm_C_xOf : Room := { frames := 0, cells := 0, slots := 0, locals := 0 }
set_option maxHeartbeats 4000000 in
set_option maxRecDepth 100000 in
theorem k_C_xOf (l : Launch) (a0 : Int64) (r : Int64) (hF : f_C_xOf a0 = some r) : Met l y_C_xOf (Cond.code y_C_xOf b_C_xOf 2 (some .long) :: wa) rm_C_xOf (pcs [.long a0]) (vp_Sl (fun z => z = r)) 0 0 (fun _ => False) := by
  refine Met.ofW (cc := b_C_xOf) (maxL := 2) (ret := (some .long)) (by decide) rfl ?_
  intro p e s m args below meth c s₁ B hml hv
  obtain ⟨rfl, hN⟩ := hv
  have hx := B.exec
  have hb := B.bytes
  have hr := B.returns
  have hts := atoms_spec (ws := Cond.code y_C_xOf b_C_xOf 2 (some .long) :: wa) B.pre
  have hw : ∀ w ∈ wa, w.before _ s = true := fun w h => hts w (List.mem_cons_of_mem _ h)
  have hown : s.vm.findClass R_C = some m.cls := findClass_of_methodNamed B.named
  have hlocks := B.notSynchronized
  have hl := lv_entry ([.long a0]) (n := 2) (Nat.le_of_ble_eq_true rfl)
  rw [lg_entry_eq]
  generalize (lg_sl ([.long a0]) ++ List.replicate (2 - (lg_sl ([.long a0])).length) Slot.unset).toArray = ls at hl ⊢
  have hl : lv_has ls 2 [(0, .long a0)] := hl
  unfold f_C_xOf at hF
  refine lv_lload_n hx hb d_C_xOf_0 rfl (lv_at hl 0 rfl) ?_
  refine lv_ldc2 (v := 4294967296) hx hb hown (hw _ ww_95) d_C_xOf_1 ?_
  refine lv_ldiv hx hb d_C_xOf_4 (by decide) ?_
  obtain rfl := Option.some.inj hF
  exact W.lret hx hb hr (fun t ht hW => ⟨_, rfl, rfl, ht⟩) (fun _ h => nomatch h) d_C_xOf_5
def f_C_yOf (a0 : Int64) : Option Int64 := some (a0 - a0 / 4294967296 * 4294967296)
abbrev rm_C_yOf : Room := { frames := 0, cells := 0, slots := 0, locals := 0 }
set_option maxHeartbeats 4000000 in
set_option maxRecDepth 100000 in
theorem k_C_yOf (l : Launch) (a0 : Int64) (r : Int64) (hF : f_C_yOf a0 = some r) : Met l y_C_yOf (Cond.code y_C_yOf b_C_yOf 2 (some .long) :: wa) rm_C_yOf (pcs [.long a0]) (vp_Sl (fun z => z = r)) 0 0 (fun _ => False) := by
  refine Met.ofW (cc := b_C_yOf) (maxL := 2) (ret := (some .long)) (by decide) rfl ?_
  intro p e s m args below meth c s₁ B hml hv
  obtain ⟨rfl, hN⟩ := hv
  have hx := B.exec
  have hb := B.bytes
  have hr := B.returns
  have hts := atoms_spec (ws := Cond.code y_C_yOf b_C_yOf 2 (some .long) :: wa) B.pre
  have hw : ∀ w ∈ wa, w.before _ s = true := fun w h => hts w (List.mem_cons_of_mem _ h)
  have hown : s.vm.findClass R_C = some m.cls := findClass_of_methodNamed B.named
  have hlocks := B.notSynchronized
  have hl := lv_entry ([.long a0]) (n := 2) (Nat.le_of_ble_eq_true rfl)
  rw [lg_entry_eq]
  generalize (lg_sl ([.long a0]) ++ List.replicate (2 - (lg_sl ([.long a0])).length) Slot.unset).toArray = ls at hl ⊢
  have hl : lv_has ls 2 [(0, .long a0)] := hl
  unfold f_C_yOf at hF
  refine lv_lload_n hx hb d_C_yOf_0 rfl (lv_at hl 0 rfl) ?_
  refine lv_ldc2 (v := 4294967296) hx hb hown (hw _ ww_95) d_C_yOf_1 ?_
  refine lv_lrem hx hb d_C_yOf_4 (by decide) ?_
  obtain rfl := Option.some.inj hF
  exact W.lret hx hb hr (fun t ht hW => ⟨_, rfl, rfl, ht⟩) (fun _ h => nomatch h) d_C_yOf_5
def f_C_isOdd (a0 : Int64) : Option Int32 := Option.bind (if (lg_cmp (a0 - a0 / 2 * 2) 1) = 0 then (some (1) : Option (Int32)) else (some (0))) (fun j1 => some (j1))
abbrev rm_C_isOdd : Room := { frames := 0, cells := 0, slots := 0, locals := 0 }
set_option maxHeartbeats 4000000 in
set_option maxRecDepth 100000 in
theorem k_C_isOdd (l : Launch) (a0 : Int64) (r : Int32) (hF : f_C_isOdd a0 = some r) : Met l y_C_isOdd (Cond.code y_C_isOdd b_C_isOdd 2 (some .boolean) :: wa) rm_C_isOdd (pcs [.long a0]) (vp_Si (fun z => z = r)) 0 0 (fun _ => False) := by
  refine Met.ofW (cc := b_C_isOdd) (maxL := 2) (ret := (some .boolean)) (by decide) rfl ?_
  intro p e s m args below meth c s₁ B hml hv
  obtain ⟨rfl, hN⟩ := hv
  have hx := B.exec
  have hb := B.bytes
  have hr := B.returns
  have hts := atoms_spec (ws := Cond.code y_C_isOdd b_C_isOdd 2 (some .boolean) :: wa) B.pre
  have hw : ∀ w ∈ wa, w.before _ s = true := fun w h => hts w (List.mem_cons_of_mem _ h)
  have hown : s.vm.findClass R_C = some m.cls := findClass_of_methodNamed B.named
  have hlocks := B.notSynchronized
  have hl := lv_entry ([.long a0]) (n := 2) (Nat.le_of_ble_eq_true rfl)
  rw [lg_entry_eq]
  generalize (lg_sl ([.long a0]) ++ List.replicate (2 - (lg_sl ([.long a0])).length) Slot.unset).toArray = ls at hl ⊢
  have hl : lv_has ls 2 [(0, .long a0)] := hl
  unfold f_C_isOdd at hF
  refine lv_lload_n hx hb d_C_isOdd_0 rfl (lv_at hl 0 rfl) ?_
  refine lv_ldc2 (v := 2) hx hb hown (hw _ ww_99) d_C_isOdd_1 ?_
  refine lv_lrem hx hb d_C_isOdd_4 (by decide) ?_
  refine lv_lconst (v := 1) hx hb d_C_isOdd_5 (by decide) ?_
  refine W.lcmp hx hb d_C_isOdd_6 ?_
  obtain ⟨j1, q3, hF⟩ := Option.bind_eq_some_iff.mp hF
  have z_j1 : j1 = 0 ∨ j1 = 1 := by
    have h := q3
    (repeat' (split at h)) <;> (obtain rfl := Option.some.inj h; first | exact Or.inl rfl | exact Or.inr rfl)
  have k2 : ∀ (ls : Array Slot), lv_has ls 2 [] → W p l e rm_C_isOdd s m ([Value.long a0] : List Value).toArray below meth c s.heap [] 0 0 (MQ below (vp_Si (fun z => z = r)) ([Value.long a0] : List Value).toArray s 0 0 (fun _ => False)) (F0 m 15 ls [.int j1]) := by
    intro ls hl
    obtain rfl := Option.some.inj hF
    exact W.zret hx hb hr (nz_b z_j1) (fun t ht hW => ⟨_, rfl, rfl, ht⟩) (fun _ h => nomatch h) d_C_isOdd_15
  clear hF
  have hF := q3
  refine lv_if_ne hx hb d_C_isOdd_7 (tgt := 14) (by decide) (fun h9 => ?_) (fun h9 => ?_)
  · have hF := (if_neg h9).symm.trans hF
    refine lv_iconst (v := 0) hx hb d_C_isOdd_14 (by decide) ?_
    obtain rfl := Option.some.inj hF
    exact k2 ls (lv_sub hl [] rfl)
  · have hF := (if_pos h9).symm.trans hF
    refine lv_iconst (v := 1) hx hb d_C_isOdd_10 (by decide) ?_
    refine lv_goto hx hb d_C_isOdd_11 (tgt := 15) (by decide) ?_
    obtain rfl := Option.some.inj hF
    exact k2 ls (lv_sub hl [] rfl)
def f_K_markOf (a0 : Int64) (a1 : Int64) : Option Int32 := Option.bind (f_C_isOdd a0) (fun r1 => Option.bind (if (lg_cmp a1 536864538) ≤ 0 then (some (0) : Option (Int32)) else (some (1))) (fun j2 => Option.bind (if r1 = j2 then (some (0) : Option (Int32)) else (some (1))) (fun j6 => Option.bind (f_C_xOf a0) (fun r10 => Option.bind (if (lg_cmp r10 1073729077) < 0 then (some (j6) : Option (Int32)) else (some (j6 + 2))) (fun j11 => some (j11))))))
abbrev rm_K_markOf : Room := { frames := 1, cells := 0, slots := 0, locals := 21 }
set_option maxHeartbeats 4000000 in
set_option maxRecDepth 100000 in
theorem k_K_markOf (l : Launch) (a0 : Int64) (a1 : Int64) (r : Int32) (hF : f_K_markOf a0 a1 = some r) : Met l y_K_markOf (Cond.code y_K_markOf b_K_markOf 5 (some .int) :: wa) rm_K_markOf (pcs [.long a0, .long a1]) (vp_Si (fun z => z = r)) 0 0 (fun _ => False) := by
  refine Met.ofW (cc := b_K_markOf) (maxL := 5) (ret := (some .int)) (by decide) rfl ?_
  intro p e s m args below meth c s₁ B hml hv
  obtain ⟨rfl, hN⟩ := hv
  have hx := B.exec
  have hb := B.bytes
  have hr := B.returns
  have hts := atoms_spec (ws := Cond.code y_K_markOf b_K_markOf 5 (some .int) :: wa) B.pre
  have hw : ∀ w ∈ wa, w.before _ s = true := fun w h => hts w (List.mem_cons_of_mem _ h)
  have hown : s.vm.findClass R_K = some m.cls := findClass_of_methodNamed B.named
  have hlocks := B.notSynchronized
  have hl := lv_entry ([.long a0, .long a1]) (n := 5) (Nat.le_of_ble_eq_true rfl)
  rw [lg_entry_eq]
  generalize (lg_sl ([.long a0, .long a1]) ++ List.replicate (5 - (lg_sl ([.long a0, .long a1])).length) Slot.unset).toArray = ls at hl ⊢
  have hl : lv_has ls 5 [(0, .long a0), (2, .long a1)] := hl
  unfold f_K_markOf at hF
  refine lv_lload_n hx hb d_K_markOf_0 rfl (lv_at hl 0 rfl) ?_
  obtain ⟨r1, e_r1, hF⟩ := Option.bind_eq_some_iff.mp hF
  refine vp_callSi (va_runS (As := [.long a0]) (rest := []) ⟨hx, hb, hml, hown, hts⟩ (k_C_isOdd l a0 r1 e_r1) (va_cwS 1 hts (ga_S ww_425 ww_97 ww_11 ww_98) rfl rfl rfl (by decide +kernel) ⟨by decide, by decide⟩) (pcs_pre hN) rfl rfl hl.1 rfl (lv_room (Nat.le_of_ble_eq_true rfl)) d_K_markOf_1 ⟨Nat.zero_le _, Nat.zero_le _⟩).run (fun z9 hz9 => ?_)
  obtain rfl : r1 = z9 := hz9.symm
  refine lv_lload_n hx hb d_K_markOf_4 rfl (lv_at hl 1 rfl) ?_
  refine lv_ldc2 (v := 536864538) hx hb hown (hw _ ww_426) d_K_markOf_5 ?_
  refine W.lcmp hx hb d_K_markOf_8 ?_
  obtain ⟨j2, q4, hF⟩ := Option.bind_eq_some_iff.mp hF
  have z_j2 : j2 = 0 ∨ j2 = 1 := by
    have h := q4
    (repeat' (split at h)) <;> (obtain rfl := Option.some.inj h; first | exact Or.inl rfl | exact Or.inr rfl)
  have k3 : ∀ (ls : Array Slot), lv_has ls 5 [(0, .long a0)] → W p l e rm_K_markOf s m ([Value.long a0, Value.long a1] : List Value).toArray below meth c s.heap [] 0 0 (MQ below (vp_Si (fun z => z = r)) ([Value.long a0, Value.long a1] : List Value).toArray s 0 0 (fun _ => False)) (F0 m 17 ls [.int j2, .int r1]) := by
    intro ls hl
    obtain ⟨j6, q8, hF⟩ := Option.bind_eq_some_iff.mp hF
    have z_j6 : j6 = 0 ∨ j6 = 1 := by
      have h := q8
      (repeat' (split at h)) <;> (obtain rfl := Option.some.inj h; first | exact Or.inl rfl | exact Or.inr rfl)
    have k7 : ∀ (ls : Array Slot), lv_has ls 5 [(0, .long a0)] → W p l e rm_K_markOf s m ([Value.long a0, Value.long a1] : List Value).toArray below meth c s.heap [] 0 0 (MQ below (vp_Si (fun z => z = r)) ([Value.long a0, Value.long a1] : List Value).toArray s 0 0 (fun _ => False)) (F0 m 25 ls [.int j6]) := by
      intro ls hl
      refine lv_istore hx hb d_K_markOf_25 hl (by decide) (lv' := [(4, .int j6), (0, .long a0)]) rfl (fun ls hl => ?_)
      refine lv_lload_n hx hb d_K_markOf_27 rfl (lv_at hl 1 rfl) ?_
      obtain ⟨r10, e_r10, hF⟩ := Option.bind_eq_some_iff.mp hF
      refine vp_callSl (va_runS (As := [.long a0]) (rest := []) ⟨hx, hb, hml, hown, hts⟩ (k_C_xOf l a0 r10 e_r10) (va_cwS 1 hts (ga_S ww_417 ww_104 ww_11 ww_105) rfl rfl rfl (by decide +kernel) ⟨by decide, by decide⟩) (pcs_pre hN) rfl rfl hl.1 rfl (lv_room (Nat.le_of_ble_eq_true rfl)) d_K_markOf_28 ⟨Nat.zero_le _, Nat.zero_le _⟩).run (fun z9 hz9 => ?_)
      obtain rfl : r10 = z9 := hz9.symm
      refine lv_ldc2 (v := 1073729077) hx hb hown (hw _ ww_146) d_K_markOf_31 ?_
      refine W.lcmp hx hb d_K_markOf_34 ?_
      obtain ⟨j11, q13, hF⟩ := Option.bind_eq_some_iff.mp hF
      have k12 : ∀ (ls : Array Slot), lv_has ls 5 [] → W p l e rm_K_markOf s m ([Value.long a0, Value.long a1] : List Value).toArray below meth c s.heap [] 0 0 (MQ below (vp_Si (fun z => z = r)) ([Value.long a0, Value.long a1] : List Value).toArray s 0 0 (fun _ => False)) (F0 m 47 ls [.int j11]) := by
        intro ls hl
        obtain rfl := Option.some.inj hF
        exact W.iret hx hb hr (fun t ht hW => ⟨_, rfl, rfl, ht⟩) (fun _ h => nomatch h) d_K_markOf_47
      clear hF
      have hF := q13
      refine lv_if_lt hx hb d_K_markOf_35 (tgt := 45) (by decide) (fun h9 => ?_) (fun h9 => ?_)
      · have hF := (if_pos h9).symm.trans hF
        refine lv_iload hx hb d_K_markOf_45 (lv_at hl 0 rfl) ?_
        obtain rfl := Option.some.inj hF
        exact k12 ls (lv_sub hl [] rfl)
      · have hF := (if_neg h9).symm.trans hF
        refine lv_iload hx hb d_K_markOf_38 (lv_at hl 0 rfl) ?_
        refine lv_iconst (v := 2) hx hb d_K_markOf_40 (by decide) ?_
        refine lv_iadd hx hb d_K_markOf_41 ?_
        refine lv_goto hx hb d_K_markOf_42 (tgt := 47) (by decide) ?_
        obtain rfl := Option.some.inj hF
        exact k12 ls (lv_sub hl [] rfl)
    clear hF
    have hF := q8
    refine lv_icmp_eq hx hb d_K_markOf_17 (tgt := 24) (by decide) (fun h9 => ?_) (fun h9 => ?_)
    · have hF := (if_pos h9).symm.trans hF
      refine lv_iconst (v := 0) hx hb d_K_markOf_24 (by decide) ?_
      obtain rfl := Option.some.inj hF
      exact k7 ls (lv_sub hl [0] rfl)
    · have hF := (if_neg h9).symm.trans hF
      refine lv_iconst (v := 1) hx hb d_K_markOf_20 (by decide) ?_
      refine lv_goto hx hb d_K_markOf_21 (tgt := 25) (by decide) ?_
      obtain rfl := Option.some.inj hF
      exact k7 ls (lv_sub hl [0] rfl)
  clear hF
  have hF := q4
  refine lv_if_le hx hb d_K_markOf_9 (tgt := 16) (by decide) (fun h9 => ?_) (fun h9 => ?_)
  · have hF := (if_pos h9).symm.trans hF
    refine lv_iconst (v := 0) hx hb d_K_markOf_16 (by decide) ?_
    obtain rfl := Option.some.inj hF
    exact k3 ls (lv_sub hl [0] rfl)
  · have hF := (if_neg h9).symm.trans hF
    refine lv_iconst (v := 1) hx hb d_K_markOf_12 (by decide) ?_
    refine lv_goto hx hb d_K_markOf_13 (tgt := 17) (by decide) ?_
    obtain rfl := Option.some.inj hF
    exact k3 ls (lv_sub hl [0] rfl)
def f_K_evenScalar (a0 : Int64) (a1 : Int64) : Option Int64 := Option.bind (f_C_isOdd a1) (fun r1 => Option.bind (if r1 = 0 then (some (a0) : Option (Int64)) else (some (1073729077 - a0))) (fun j2 => some (j2)))
abbrev rm_K_evenScalar : Room := { frames := 1, cells := 0, slots := 0, locals := 21 }
set_option maxHeartbeats 4000000 in
set_option maxRecDepth 100000 in
theorem k_K_evenScalar (l : Launch) (a0 : Int64) (a1 : Int64) (r : Int64) (hF : f_K_evenScalar a0 a1 = some r) : Met l y_K_evenScalar (Cond.code y_K_evenScalar b_K_evenScalar 4 (some .long) :: wa) rm_K_evenScalar (pcs [.long a0, .long a1]) (vp_Sl (fun z => z = r)) 0 0 (fun _ => False) := by
  refine Met.ofW (cc := b_K_evenScalar) (maxL := 4) (ret := (some .long)) (by decide) rfl ?_
  intro p e s m args below meth c s₁ B hml hv
  obtain ⟨rfl, hN⟩ := hv
  have hx := B.exec
  have hb := B.bytes
  have hr := B.returns
  have hts := atoms_spec (ws := Cond.code y_K_evenScalar b_K_evenScalar 4 (some .long) :: wa) B.pre
  have hw : ∀ w ∈ wa, w.before _ s = true := fun w h => hts w (List.mem_cons_of_mem _ h)
  have hown : s.vm.findClass R_K = some m.cls := findClass_of_methodNamed B.named
  have hlocks := B.notSynchronized
  have hl := lv_entry ([.long a0, .long a1]) (n := 4) (Nat.le_of_ble_eq_true rfl)
  rw [lg_entry_eq]
  generalize (lg_sl ([.long a0, .long a1]) ++ List.replicate (4 - (lg_sl ([.long a0, .long a1])).length) Slot.unset).toArray = ls at hl ⊢
  have hl : lv_has ls 4 [(0, .long a0), (2, .long a1)] := hl
  unfold f_K_evenScalar at hF
  refine lv_lload_n hx hb d_K_evenScalar_0 rfl (lv_at hl 1 rfl) ?_
  obtain ⟨r1, e_r1, hF⟩ := Option.bind_eq_some_iff.mp hF
  refine vp_callSi (va_runS (As := [.long a1]) (rest := []) ⟨hx, hb, hml, hown, hts⟩ (k_C_isOdd l a1 r1 e_r1) (va_cwS 1 hts (ga_S ww_425 ww_97 ww_11 ww_98) rfl rfl rfl (by decide +kernel) ⟨by decide, by decide⟩) (pcs_pre hN) rfl rfl hl.1 rfl (lv_room (Nat.le_of_ble_eq_true rfl)) d_K_evenScalar_1 ⟨Nat.zero_le _, Nat.zero_le _⟩).run (fun z9 hz9 => ?_)
  obtain rfl : r1 = z9 := hz9.symm
  obtain ⟨j2, q4, hF⟩ := Option.bind_eq_some_iff.mp hF
  have k3 : ∀ (ls : Array Slot), lv_has ls 4 [] → W p l e rm_K_evenScalar s m ([Value.long a0, Value.long a1] : List Value).toArray below meth c s.heap [] 0 0 (MQ below (vp_Sl (fun z => z = r)) ([Value.long a0, Value.long a1] : List Value).toArray s 0 0 (fun _ => False)) (F0 m 16 ls [.long j2]) := by
    intro ls hl
    obtain rfl := Option.some.inj hF
    exact W.lret hx hb hr (fun t ht hW => ⟨_, rfl, rfl, ht⟩) (fun _ h => nomatch h) d_K_evenScalar_16
  clear hF
  have hF := q4
  refine lv_if_eq hx hb d_K_evenScalar_4 (tgt := 15) (by decide) (fun h9 => ?_) (fun h9 => ?_)
  · have hF := (if_pos h9).symm.trans hF
    refine lv_lload_n hx hb d_K_evenScalar_15 rfl (lv_at hl 0 rfl) ?_
    obtain rfl := Option.some.inj hF
    exact k3 ls (lv_sub hl [] rfl)
  · have hF := (if_neg h9).symm.trans hF
    refine lv_ldc2 (v := 1073729077) hx hb hown (hw _ ww_146) d_K_evenScalar_7 ?_
    refine lv_lload_n hx hb d_K_evenScalar_10 rfl (lv_at hl 0 rfl) ?_
    refine lv_lsub hx hb d_K_evenScalar_11 ?_
    refine lv_goto hx hb d_K_evenScalar_12 (tgt := 16) (by decide) ?_
    obtain rfl := Option.some.inj hF
    exact k3 ls (lv_sub hl [] rfl)
def f_C_negative (a0 : Int64) : Option Int64 := Option.bind (if (lg_cmp a0 0) = 0 then (some (0) : Option (Int64)) else (Option.bind (f_C_xOf a0) (fun r5 => Option.bind (f_C_yOf a0) (fun r6 => some ((r5 * 4294967296) + (1073735023 - r6)))))) (fun j1 => some (j1))
abbrev rm_C_negative : Room := { frames := 1, cells := 0, slots := 0, locals := 21 }
set_option maxHeartbeats 4000000 in
set_option maxRecDepth 100000 in
theorem k_C_negative (l : Launch) (a0 : Int64) (r : Int64) (hF : f_C_negative a0 = some r) : Met l y_C_negative (Cond.code y_C_negative b_C_negative 2 (some .long) :: wa) rm_C_negative (pcs [.long a0]) (vp_Sl (fun z => z = r)) 0 0 (fun _ => False) := by
  refine Met.ofW (cc := b_C_negative) (maxL := 2) (ret := (some .long)) (by decide) rfl ?_
  intro p e s m args below meth c s₁ B hml hv
  obtain ⟨rfl, hN⟩ := hv
  have hx := B.exec
  have hb := B.bytes
  have hr := B.returns
  have hts := atoms_spec (ws := Cond.code y_C_negative b_C_negative 2 (some .long) :: wa) B.pre
  have hw : ∀ w ∈ wa, w.before _ s = true := fun w h => hts w (List.mem_cons_of_mem _ h)
  have hown : s.vm.findClass R_C = some m.cls := findClass_of_methodNamed B.named
  have hlocks := B.notSynchronized
  have hl := lv_entry ([.long a0]) (n := 2) (Nat.le_of_ble_eq_true rfl)
  rw [lg_entry_eq]
  generalize (lg_sl ([.long a0]) ++ List.replicate (2 - (lg_sl ([.long a0])).length) Slot.unset).toArray = ls at hl ⊢
  have hl : lv_has ls 2 [(0, .long a0)] := hl
  unfold f_C_negative at hF
  refine lv_lload_n hx hb d_C_negative_0 rfl (lv_at hl 0 rfl) ?_
  refine lv_lconst (v := 0) hx hb d_C_negative_1 (by decide) ?_
  refine W.lcmp hx hb d_C_negative_2 ?_
  obtain ⟨j1, q3, hF⟩ := Option.bind_eq_some_iff.mp hF
  have k2 : ∀ (ls : Array Slot), lv_has ls 2 [] → W p l e rm_C_negative s m ([Value.long a0] : List Value).toArray below meth c s.heap [] 0 0 (MQ below (vp_Sl (fun z => z = r)) ([Value.long a0] : List Value).toArray s 0 0 (fun _ => False)) (F0 m 27 ls [.long j1]) := by
    intro ls hl
    obtain rfl := Option.some.inj hF
    exact W.lret hx hb hr (fun t ht hW => ⟨_, rfl, rfl, ht⟩) (fun _ h => nomatch h) d_C_negative_27
  clear hF
  have hF := q3
  refine lv_if_ne hx hb d_C_negative_3 (tgt := 10) (by decide) (fun h9 => ?_) (fun h9 => ?_)
  · have hF := (if_neg h9).symm.trans hF
    refine lv_lload_n hx hb d_C_negative_10 rfl (lv_at hl 0 rfl) ?_
    obtain ⟨r5, e_r5, hF⟩ := Option.bind_eq_some_iff.mp hF
    refine vp_callSl (va_runS (As := [.long a0]) (rest := []) ⟨hx, hb, hml, hown, hts⟩ (k_C_xOf l a0 r5 e_r5) (va_cwS 1 hts (ga_S ww_103 ww_104 ww_11 ww_105) rfl rfl rfl (by decide +kernel) ⟨by decide, by decide⟩) (pcs_pre hN) rfl rfl hl.1 rfl (lv_room (Nat.le_of_ble_eq_true rfl)) d_C_negative_11 ⟨Nat.zero_le _, Nat.zero_le _⟩).run (fun z9 hz9 => ?_)
    obtain rfl : r5 = z9 := hz9.symm
    refine lv_ldc2 (v := 4294967296) hx hb hown (hw _ ww_95) d_C_negative_14 ?_
    refine lv_lmul hx hb d_C_negative_17 ?_
    refine lv_ldc2 (v := 1073735023) hx hb hown (hw _ ww_89) d_C_negative_18 ?_
    refine lv_lload_n hx hb d_C_negative_21 rfl (lv_at hl 0 rfl) ?_
    obtain ⟨r6, e_r6, hF⟩ := Option.bind_eq_some_iff.mp hF
    refine vp_callSl (va_runS (As := [.long a0]) (rest := [.long 1073735023, .long (r5 * 4294967296)]) ⟨hx, hb, hml, hown, hts⟩ (k_C_yOf l a0 r6 e_r6) (va_cwS 1 hts (ga_S ww_106 ww_107 ww_11 ww_108) rfl rfl rfl (by decide +kernel) ⟨by decide, by decide⟩) (pcs_pre hN) rfl rfl hl.1 rfl (lv_room (Nat.le_of_ble_eq_true rfl)) d_C_negative_22 ⟨Nat.zero_le _, Nat.zero_le _⟩).run (fun z9 hz9 => ?_)
    obtain rfl : r6 = z9 := hz9.symm
    refine lv_lsub hx hb d_C_negative_25 ?_
    refine lv_ladd hx hb d_C_negative_26 ?_
    obtain rfl := Option.some.inj hF
    exact k2 ls (lv_sub hl [] rfl)
  · have hF := (if_pos h9).symm.trans hF
    refine lv_lconst (v := 0) hx hb d_C_negative_6 (by decide) ?_
    refine lv_goto hx hb d_C_negative_7 (tgt := 27) (by decide) ?_
    obtain rfl := Option.some.inj hF
    exact k2 ls (lv_sub hl [] rfl)
def f_C_evenOf (a0 : Int64) : Option Int64 := Option.bind (f_C_isOdd a0) (fun r1 => Option.bind (if r1 = 0 then (some (a0) : Option (Int64)) else (Option.bind (f_C_negative a0) (fun r6 => some (r6)))) (fun j2 => some (j2)))
abbrev rm_C_evenOf : Room := { frames := 2, cells := 0, slots := 0, locals := 42 }
set_option maxHeartbeats 4000000 in
set_option maxRecDepth 100000 in
theorem k_C_evenOf (l : Launch) (a0 : Int64) (r : Int64) (hF : f_C_evenOf a0 = some r) : Met l y_C_evenOf (Cond.code y_C_evenOf b_C_evenOf 2 (some .long) :: wa) rm_C_evenOf (pcs [.long a0]) (vp_Sl (fun z => z = r)) 0 0 (fun _ => False) := by
  refine Met.ofW (cc := b_C_evenOf) (maxL := 2) (ret := (some .long)) (by decide) rfl ?_
  intro p e s m args below meth c s₁ B hml hv
  obtain ⟨rfl, hN⟩ := hv
  have hx := B.exec
  have hb := B.bytes
  have hr := B.returns
  have hts := atoms_spec (ws := Cond.code y_C_evenOf b_C_evenOf 2 (some .long) :: wa) B.pre
  have hw : ∀ w ∈ wa, w.before _ s = true := fun w h => hts w (List.mem_cons_of_mem _ h)
  have hown : s.vm.findClass R_C = some m.cls := findClass_of_methodNamed B.named
  have hlocks := B.notSynchronized
  have hl := lv_entry ([.long a0]) (n := 2) (Nat.le_of_ble_eq_true rfl)
  rw [lg_entry_eq]
  generalize (lg_sl ([.long a0]) ++ List.replicate (2 - (lg_sl ([.long a0])).length) Slot.unset).toArray = ls at hl ⊢
  have hl : lv_has ls 2 [(0, .long a0)] := hl
  unfold f_C_evenOf at hF
  refine lv_lload_n hx hb d_C_evenOf_0 rfl (lv_at hl 0 rfl) ?_
  obtain ⟨r1, e_r1, hF⟩ := Option.bind_eq_some_iff.mp hF
  refine vp_callSi (va_runS (As := [.long a0]) (rest := []) ⟨hx, hb, hml, hown, hts⟩ (k_C_isOdd l a0 r1 e_r1) (va_cwS 1 hts (ga_S ww_96 ww_97 ww_11 ww_98) rfl rfl rfl (by decide +kernel) ⟨by decide, by decide⟩) (pcs_pre hN) rfl rfl hl.1 rfl (lv_room (Nat.le_of_ble_eq_true rfl)) d_C_evenOf_1 ⟨Nat.zero_le _, Nat.zero_le _⟩).run (fun z9 hz9 => ?_)
  obtain rfl : r1 = z9 := hz9.symm
  obtain ⟨j2, q4, hF⟩ := Option.bind_eq_some_iff.mp hF
  have k3 : ∀ (ls : Array Slot), lv_has ls 2 [] → W p l e rm_C_evenOf s m ([Value.long a0] : List Value).toArray below meth c s.heap [] 0 0 (MQ below (vp_Sl (fun z => z = r)) ([Value.long a0] : List Value).toArray s 0 0 (fun _ => False)) (F0 m 15 ls [.long j2]) := by
    intro ls hl
    obtain rfl := Option.some.inj hF
    exact W.lret hx hb hr (fun t ht hW => ⟨_, rfl, rfl, ht⟩) (fun _ h => nomatch h) d_C_evenOf_15
  clear hF
  have hF := q4
  refine lv_if_eq hx hb d_C_evenOf_4 (tgt := 14) (by decide) (fun h9 => ?_) (fun h9 => ?_)
  · have hF := (if_pos h9).symm.trans hF
    refine lv_lload_n hx hb d_C_evenOf_14 rfl (lv_at hl 0 rfl) ?_
    obtain rfl := Option.some.inj hF
    exact k3 ls (lv_sub hl [] rfl)
  · have hF := (if_neg h9).symm.trans hF
    refine lv_lload_n hx hb d_C_evenOf_7 rfl (lv_at hl 0 rfl) ?_
    obtain ⟨r6, e_r6, hF⟩ := Option.bind_eq_some_iff.mp hF
    refine vp_callSl (va_runS (As := [.long a0]) (rest := []) ⟨hx, hb, hml, hown, hts⟩ (k_C_negative l a0 r6 e_r6) (va_cwS 1 hts (ga_S ww_100 ww_101 ww_11 ww_102) rfl rfl rfl (by decide +kernel) ⟨by decide, by decide⟩) (pcs_pre hN) rfl rfl hl.1 rfl (lv_room (Nat.le_of_ble_eq_true rfl)) d_C_evenOf_8 ⟨Nat.zero_le _, Nat.zero_le _⟩).run (fun z9 hz9 => ?_)
    obtain rfl : r6 = z9 := hz9.symm
    refine lv_goto hx hb d_C_evenOf_11 (tgt := 15) (by decide) ?_
    obtain rfl := Option.some.inj hF
    exact k3 ls (lv_sub hl [] rfl)
def f_C_pointAt (a0 : Int64) (a1 : Int32) : Option Int64 := Option.bind (f_F_has a0) (fun r1 => if r1 = 0 then (some (0)) else (Option.bind (some (((((a0 * a0) - (a0 * a0) / 1073735023 * 1073735023) * a0) + 7) - ((((a0 * a0) - (a0 * a0) / 1073735023 * 1073735023) * a0) + 7) / 1073735023 * 1073735023)) (fun v2 => Option.bind (f_F_rootIfAny v2) (fun r3 => if (lg_cmp ((r3 * r3) - (r3 * r3) / 1073735023 * 1073735023) v2) = 0 then (Option.bind (some ((a0 * 4294967296) + r3)) (fun v4 => Option.bind (f_C_isOdd v4) (fun r5 => Option.bind (if r5 = a1 then (some (v4) : Option (Int64)) else (Option.bind (f_C_negative v4) (fun r10 => some (r10)))) (fun j6 => some (j6))))) else (some (0))))))
abbrev rm_C_pointAt : Room := { frames := 2, cells := 0, slots := 0, locals := 42 }
set_option maxHeartbeats 4000000 in
set_option maxRecDepth 100000 in
theorem k_C_pointAt (l : Launch) (a0 : Int64) (a1 : Int32) (r : Int64) (hF : f_C_pointAt a0 a1 = some r) : Met l y_C_pointAt (Cond.code y_C_pointAt b_C_pointAt 9 (some .long) :: wa) rm_C_pointAt (pcs [.long a0, .int a1]) (vp_Sl (fun z => z = r)) 0 0 (fun _ => False) := by
  refine Met.ofW (cc := b_C_pointAt) (maxL := 9) (ret := (some .long)) (by decide) rfl ?_
  intro p e s m args below meth c s₁ B hml hv
  obtain ⟨rfl, hN⟩ := hv
  have hx := B.exec
  have hb := B.bytes
  have hr := B.returns
  have hts := atoms_spec (ws := Cond.code y_C_pointAt b_C_pointAt 9 (some .long) :: wa) B.pre
  have hw : ∀ w ∈ wa, w.before _ s = true := fun w h => hts w (List.mem_cons_of_mem _ h)
  have hown : s.vm.findClass R_C = some m.cls := findClass_of_methodNamed B.named
  have hlocks := B.notSynchronized
  have hl := lv_entry ([.long a0, .int a1]) (n := 9) (Nat.le_of_ble_eq_true rfl)
  rw [lg_entry_eq]
  generalize (lg_sl ([.long a0, .int a1]) ++ List.replicate (9 - (lg_sl ([.long a0, .int a1])).length) Slot.unset).toArray = ls at hl ⊢
  have hl : lv_has ls 9 [(0, .long a0), (2, .int a1)] := hl
  unfold f_C_pointAt at hF
  refine lv_lload_n hx hb d_C_pointAt_0 rfl (lv_at hl 0 rfl) ?_
  obtain ⟨r1, e_r1, hF⟩ := Option.bind_eq_some_iff.mp hF
  refine vp_callSi (va_runS (As := [.long a0]) (rest := []) ⟨hx, hb, hml, hown, hts⟩ (k_F_has l a0 r1 e_r1) (va_cwS 1 hts (ga_S ww_85 ww_86 ww_12 ww_87) rfl rfl rfl (by decide +kernel) ⟨by decide, by decide⟩) (pcs_pre hN) rfl rfl hl.1 rfl (lv_room (Nat.le_of_ble_eq_true rfl)) d_C_pointAt_1 ⟨Nat.zero_le _, Nat.zero_le _⟩).run (fun z9 hz9 => ?_)
  obtain rfl : r1 = z9 := hz9.symm
  refine lv_if_ne hx hb d_C_pointAt_4 (tgt := 9) (by decide) (fun h9 => ?_) (fun h9 => ?_)
  · have hF := (if_neg h9).symm.trans hF
    refine lv_lload_n hx hb d_C_pointAt_9 rfl (lv_at hl 0 rfl) ?_
    refine lv_lload_n hx hb d_C_pointAt_10 rfl (lv_at hl 0 rfl) ?_
    refine lv_lmul hx hb d_C_pointAt_11 ?_
    refine lv_ldc2 (v := 1073735023) hx hb hown (hw _ ww_89) d_C_pointAt_12 ?_
    refine lv_lrem hx hb d_C_pointAt_15 (by decide) ?_
    refine lv_lload_n hx hb d_C_pointAt_16 rfl (lv_at hl 0 rfl) ?_
    refine lv_lmul hx hb d_C_pointAt_17 ?_
    refine lv_ldc2 (v := 7) hx hb hown (hw _ ww_90) d_C_pointAt_18 ?_
    refine lv_ladd hx hb d_C_pointAt_21 ?_
    refine lv_ldc2 (v := 1073735023) hx hb hown (hw _ ww_89) d_C_pointAt_22 ?_
    refine lv_lrem hx hb d_C_pointAt_25 (by decide) ?_
    obtain ⟨v2, e_v2, hF⟩ := Option.bind_eq_some_iff.mp hF
    refine nm_l (Option.some.inj e_v2) ?_
    refine lv_lstore_n hx hb d_C_pointAt_26 rfl hl (by decide) (lv' := [(3, .long v2), (0, .long a0), (2, .int a1)]) rfl (fun ls hl => ?_)
    refine lv_lload_n hx hb d_C_pointAt_27 rfl (lv_at hl 0 rfl) ?_
    obtain ⟨r3, e_r3, hF⟩ := Option.bind_eq_some_iff.mp hF
    refine vp_callSl (va_runS (As := [.long v2]) (rest := []) ⟨hx, hb, hml, hown, hts⟩ (k_F_rootIfAny l v2 r3 e_r3) (va_cwS 1 hts (ga_S ww_91 ww_92 ww_12 ww_93) rfl rfl rfl (by decide +kernel) ⟨by decide, by decide⟩) (pcs_pre hN) rfl rfl hl.1 rfl (lv_room (Nat.le_of_ble_eq_true rfl)) d_C_pointAt_28 ⟨Nat.zero_le _, Nat.zero_le _⟩).run (fun z9 hz9 => ?_)
    obtain rfl : r3 = z9 := hz9.symm
    refine lv_lstore hx hb d_C_pointAt_31 hl (by decide) (lv' := [(5, .long r3), (3, .long v2), (0, .long a0), (2, .int a1)]) rfl (fun ls hl => ?_)
    refine lv_lload hx hb d_C_pointAt_33 (lv_at hl 0 rfl) ?_
    refine lv_lload hx hb d_C_pointAt_35 (lv_at hl 0 rfl) ?_
    refine lv_lmul hx hb d_C_pointAt_37 ?_
    refine lv_ldc2 (v := 1073735023) hx hb hown (hw _ ww_89) d_C_pointAt_38 ?_
    refine lv_lrem hx hb d_C_pointAt_41 (by decide) ?_
    refine lv_lload_n hx hb d_C_pointAt_42 rfl (lv_at hl 1 rfl) ?_
    refine W.lcmp hx hb d_C_pointAt_43 ?_
    refine lv_if_eq hx hb d_C_pointAt_44 (tgt := 49) (by decide) (fun h9 => ?_) (fun h9 => ?_)
    · have hF := (if_pos h9).symm.trans hF
      refine lv_lload_n hx hb d_C_pointAt_49 rfl (lv_at hl 2 rfl) ?_
      refine lv_ldc2 (v := 4294967296) hx hb hown (hw _ ww_95) d_C_pointAt_50 ?_
      refine lv_lmul hx hb d_C_pointAt_53 ?_
      refine lv_lload hx hb d_C_pointAt_54 (lv_at hl 0 rfl) ?_
      refine lv_ladd hx hb d_C_pointAt_56 ?_
      obtain ⟨v4, e_v4, hF⟩ := Option.bind_eq_some_iff.mp hF
      refine nm_l (Option.some.inj e_v4) ?_
      refine lv_lstore hx hb d_C_pointAt_57 hl (by decide) (lv' := [(7, .long v4), (5, .long r3), (3, .long v2), (0, .long a0), (2, .int a1)]) rfl (fun ls hl => ?_)
      refine lv_lload hx hb d_C_pointAt_59 (lv_at hl 0 rfl) ?_
      obtain ⟨r5, e_r5, hF⟩ := Option.bind_eq_some_iff.mp hF
      refine vp_callSi (va_runS (As := [.long v4]) (rest := []) ⟨hx, hb, hml, hown, hts⟩ (k_C_isOdd l v4 r5 e_r5) (va_cwS 1 hts (ga_S ww_96 ww_97 ww_11 ww_98) rfl rfl rfl (by decide +kernel) ⟨by decide, by decide⟩) (pcs_pre hN) rfl rfl hl.1 rfl (lv_room (Nat.le_of_ble_eq_true rfl)) d_C_pointAt_61 ⟨Nat.zero_le _, Nat.zero_le _⟩).run (fun z9 hz9 => ?_)
      obtain rfl : r5 = z9 := hz9.symm
      refine lv_iload_n hx hb d_C_pointAt_64 rfl (lv_at hl 4 rfl) ?_
      obtain ⟨j6, q8, hF⟩ := Option.bind_eq_some_iff.mp hF
      have k7 : ∀ (ls : Array Slot), lv_has ls 9 [] → W p l e rm_C_pointAt s m ([Value.long a0, Value.int a1] : List Value).toArray below meth c s.heap [] 0 0 (MQ below (vp_Sl (fun z => z = r)) ([Value.long a0, Value.int a1] : List Value).toArray s 0 0 (fun _ => False)) (F0 m 78 ls [.long j6]) := by
        intro ls hl
        obtain rfl := Option.some.inj hF
        exact W.lret hx hb hr (fun t ht hW => ⟨_, rfl, rfl, ht⟩) (fun _ h => nomatch h) d_C_pointAt_78
      clear hF
      have hF := q8
      refine lv_icmp_ne hx hb d_C_pointAt_65 (tgt := 73) (by decide) (fun h9 => ?_) (fun h9 => ?_)
      · have hF := (if_neg h9).symm.trans hF
        refine lv_lload hx hb d_C_pointAt_73 (lv_at hl 0 rfl) ?_
        obtain ⟨r10, e_r10, hF⟩ := Option.bind_eq_some_iff.mp hF
        refine vp_callSl (va_runS (As := [.long v4]) (rest := []) ⟨hx, hb, hml, hown, hts⟩ (k_C_negative l v4 r10 e_r10) (va_cwS 1 hts (ga_S ww_100 ww_101 ww_11 ww_102) rfl rfl rfl (by decide +kernel) ⟨by decide, by decide⟩) (pcs_pre hN) rfl rfl hl.1 rfl (lv_room (Nat.le_of_ble_eq_true rfl)) d_C_pointAt_75 ⟨Nat.zero_le _, Nat.zero_le _⟩).run (fun z9 hz9 => ?_)
        obtain rfl : r10 = z9 := hz9.symm
        obtain rfl := Option.some.inj hF
        exact k7 ls (lv_sub hl [] rfl)
      · have hF := (if_pos h9).symm.trans hF
        refine lv_lload hx hb d_C_pointAt_68 (lv_at hl 0 rfl) ?_
        refine lv_goto hx hb d_C_pointAt_70 (tgt := 78) (by decide) ?_
        obtain rfl := Option.some.inj hF
        exact k7 ls (lv_sub hl [] rfl)
    · have hF := (if_neg h9).symm.trans hF
      refine lv_lconst (v := 0) hx hb d_C_pointAt_47 (by decide) ?_
      obtain rfl := Option.some.inj hF
      exact W.lret hx hb hr (fun t ht hW => ⟨_, rfl, rfl, ht⟩) (fun _ h => nomatch h) d_C_pointAt_48
  · have hF := (if_pos h9).symm.trans hF
    refine lv_lconst (v := 0) hx hb d_C_pointAt_7 (by decide) ?_
    obtain rfl := Option.some.inj hF
    exact W.lret hx hb hr (fun t ht hW => ⟨_, rfl, rfl, ht⟩) (fun _ h => nomatch h) d_C_pointAt_8
def f_C_toCode (a0 : Int64) : Option Int64 := Option.bind (if (lg_cmp a0 0) = 0 then (some (0) : Option (Int64)) else (Option.bind (f_C_xOf a0) (fun r5 => some (((2 + (a0 - a0 / 2 * 2)) * 4294967296) + r5)))) (fun j1 => some (j1))
abbrev rm_C_toCode : Room := { frames := 1, cells := 0, slots := 0, locals := 21 }
set_option maxHeartbeats 4000000 in
set_option maxRecDepth 100000 in
theorem k_C_toCode (l : Launch) (a0 : Int64) (r : Int64) (hF : f_C_toCode a0 = some r) : Met l y_C_toCode (Cond.code y_C_toCode b_C_toCode 2 (some .long) :: wa) rm_C_toCode (pcs [.long a0]) (vp_Sl (fun z => z = r)) 0 0 (fun _ => False) := by
  refine Met.ofW (cc := b_C_toCode) (maxL := 2) (ret := (some .long)) (by decide) rfl ?_
  intro p e s m args below meth c s₁ B hml hv
  obtain ⟨rfl, hN⟩ := hv
  have hx := B.exec
  have hb := B.bytes
  have hr := B.returns
  have hts := atoms_spec (ws := Cond.code y_C_toCode b_C_toCode 2 (some .long) :: wa) B.pre
  have hw : ∀ w ∈ wa, w.before _ s = true := fun w h => hts w (List.mem_cons_of_mem _ h)
  have hown : s.vm.findClass R_C = some m.cls := findClass_of_methodNamed B.named
  have hlocks := B.notSynchronized
  have hl := lv_entry ([.long a0]) (n := 2) (Nat.le_of_ble_eq_true rfl)
  rw [lg_entry_eq]
  generalize (lg_sl ([.long a0]) ++ List.replicate (2 - (lg_sl ([.long a0])).length) Slot.unset).toArray = ls at hl ⊢
  have hl : lv_has ls 2 [(0, .long a0)] := hl
  unfold f_C_toCode at hF
  refine lv_lload_n hx hb d_C_toCode_0 rfl (lv_at hl 0 rfl) ?_
  refine lv_lconst (v := 0) hx hb d_C_toCode_1 (by decide) ?_
  refine W.lcmp hx hb d_C_toCode_2 ?_
  obtain ⟨j1, q3, hF⟩ := Option.bind_eq_some_iff.mp hF
  have k2 : ∀ (ls : Array Slot), lv_has ls 2 [] → W p l e rm_C_toCode s m ([Value.long a0] : List Value).toArray below meth c s.heap [] 0 0 (MQ below (vp_Sl (fun z => z = r)) ([Value.long a0] : List Value).toArray s 0 0 (fun _ => False)) (F0 m 28 ls [.long j1]) := by
    intro ls hl
    obtain rfl := Option.some.inj hF
    exact W.lret hx hb hr (fun t ht hW => ⟨_, rfl, rfl, ht⟩) (fun _ h => nomatch h) d_C_toCode_28
  clear hF
  have hF := q3
  refine lv_if_ne hx hb d_C_toCode_3 (tgt := 10) (by decide) (fun h9 => ?_) (fun h9 => ?_)
  · have hF := (if_neg h9).symm.trans hF
    refine lv_ldc2 (v := 2) hx hb hown (hw _ ww_99) d_C_toCode_10 ?_
    refine lv_lload_n hx hb d_C_toCode_13 rfl (lv_at hl 0 rfl) ?_
    refine lv_ldc2 (v := 2) hx hb hown (hw _ ww_99) d_C_toCode_14 ?_
    refine lv_lrem hx hb d_C_toCode_17 (by decide) ?_
    refine lv_ladd hx hb d_C_toCode_18 ?_
    refine lv_ldc2 (v := 4294967296) hx hb hown (hw _ ww_95) d_C_toCode_19 ?_
    refine lv_lmul hx hb d_C_toCode_22 ?_
    refine lv_lload_n hx hb d_C_toCode_23 rfl (lv_at hl 0 rfl) ?_
    obtain ⟨r5, e_r5, hF⟩ := Option.bind_eq_some_iff.mp hF
    refine vp_callSl (va_runS (As := [.long a0]) (rest := [.long ((2 + (a0 - a0 / 2 * 2)) * 4294967296)]) ⟨hx, hb, hml, hown, hts⟩ (k_C_xOf l a0 r5 e_r5) (va_cwS 1 hts (ga_S ww_103 ww_104 ww_11 ww_105) rfl rfl rfl (by decide +kernel) ⟨by decide, by decide⟩) (pcs_pre hN) rfl rfl hl.1 rfl (lv_room (Nat.le_of_ble_eq_true rfl)) d_C_toCode_24 ⟨Nat.zero_le _, Nat.zero_le _⟩).run (fun z9 hz9 => ?_)
    obtain rfl : r5 = z9 := hz9.symm
    refine lv_ladd hx hb d_C_toCode_27 ?_
    obtain rfl := Option.some.inj hF
    exact k2 ls (lv_sub hl [] rfl)
  · have hF := (if_pos h9).symm.trans hF
    refine lv_lconst (v := 0) hx hb d_C_toCode_6 (by decide) ?_
    refine lv_goto hx hb d_C_toCode_7 (tgt := 28) (by decide) ?_
    obtain rfl := Option.some.inj hF
    exact k2 ls (lv_sub hl [] rfl)
def f_C_fromCode (a0 : Int64) : Option Int64 := Option.bind (some ((Int64.toUInt64 a0 >>> ((Int32.toInt64 32).toUInt64 &&& Int64.toUInt64 63)).toInt64)) (fun v1 => Option.bind (if (lg_cmp v1 2) = 0 then (Option.bind (if (lg_cmp v1 3) = 0 then (some (1) : Option (Int32)) else (some (0))) (fun j6 => Option.bind (f_C_pointAt (a0 - a0 / 4294967296 * 4294967296) j6) (fun r10 => some (r10))) : Option (Int64)) else (if (lg_cmp v1 3) = 0 then (Option.bind (if (lg_cmp v1 3) = 0 then (some (1) : Option (Int32)) else (some (0))) (fun j11 => Option.bind (f_C_pointAt (a0 - a0 / 4294967296 * 4294967296) j11) (fun r15 => some (r15)))) else (some (0)))) (fun j2 => some (j2)))
abbrev rm_C_fromCode : Room := { frames := 3, cells := 0, slots := 0, locals := 70 }
set_option maxHeartbeats 4000000 in
set_option maxRecDepth 100000 in
theorem k_C_fromCode (l : Launch) (a0 : Int64) (r : Int64) (hF : f_C_fromCode a0 = some r) : Met l y_C_fromCode (Cond.code y_C_fromCode b_C_fromCode 4 (some .long) :: wa) rm_C_fromCode (pcs [.long a0]) (vp_Sl (fun z => z = r)) 0 0 (fun _ => False) := by
  refine Met.ofW (cc := b_C_fromCode) (maxL := 4) (ret := (some .long)) (by decide) rfl ?_
  intro p e s m args below meth c s₁ B hml hv
  obtain ⟨rfl, hN⟩ := hv
  have hx := B.exec
  have hb := B.bytes
  have hr := B.returns
  have hts := atoms_spec (ws := Cond.code y_C_fromCode b_C_fromCode 4 (some .long) :: wa) B.pre
  have hw : ∀ w ∈ wa, w.before _ s = true := fun w h => hts w (List.mem_cons_of_mem _ h)
  have hown : s.vm.findClass R_C = some m.cls := findClass_of_methodNamed B.named
  have hlocks := B.notSynchronized
  have hl := lv_entry ([.long a0]) (n := 4) (Nat.le_of_ble_eq_true rfl)
  rw [lg_entry_eq]
  generalize (lg_sl ([.long a0]) ++ List.replicate (4 - (lg_sl ([.long a0])).length) Slot.unset).toArray = ls at hl ⊢
  have hl : lv_has ls 4 [(0, .long a0)] := hl
  unfold f_C_fromCode at hF
  refine lv_lload_n hx hb d_C_fromCode_0 rfl (lv_at hl 0 rfl) ?_
  refine lv_bipush (v := 32) hx hb d_C_fromCode_1 (by decide) ?_
  refine lv_lushr (v := (Int64.toUInt64 a0 >>> ((Int32.toInt64 32).toUInt64 &&& Int64.toUInt64 63)).toInt64) hx hb d_C_fromCode_3 rfl ?_
  obtain ⟨v1, e_v1, hF⟩ := Option.bind_eq_some_iff.mp hF
  refine nm_l (Option.some.inj e_v1) ?_
  refine lv_lstore_n hx hb d_C_fromCode_4 rfl hl (by decide) (lv' := [(2, .long v1), (0, .long a0)]) rfl (fun ls hl => ?_)
  refine lv_lload_n hx hb d_C_fromCode_5 rfl (lv_at hl 0 rfl) ?_
  refine lv_ldc2 (v := 2) hx hb hown (hw _ ww_99) d_C_fromCode_6 ?_
  refine W.lcmp hx hb d_C_fromCode_9 ?_
  obtain ⟨j2, q4, hF⟩ := Option.bind_eq_some_iff.mp hF
  have k3 : ∀ (ls : Array Slot), lv_has ls 4 [] → W p l e rm_C_fromCode s m ([Value.long a0] : List Value).toArray below meth c s.heap [] 0 0 (MQ below (vp_Sl (fun z => z = r)) ([Value.long a0] : List Value).toArray s 0 0 (fun _ => False)) (F0 m 46 ls [.long j2]) := by
    intro ls hl
    obtain rfl := Option.some.inj hF
    exact W.lret hx hb hr (fun t ht hW => ⟨_, rfl, rfl, ht⟩) (fun _ h => nomatch h) d_C_fromCode_46
  clear hF
  have hF := q4
  refine lv_if_eq hx hb d_C_fromCode_10 (tgt := 21) (by decide) (fun h9 => ?_) (fun h9 => ?_)
  · have hF := (if_pos h9).symm.trans hF
    refine lv_lload_n hx hb d_C_fromCode_21 rfl (lv_at hl 1 rfl) ?_
    refine lv_ldc2 (v := 4294967296) hx hb hown (hw _ ww_95) d_C_fromCode_22 ?_
    refine lv_lrem hx hb d_C_fromCode_25 (by decide) ?_
    refine lv_lload_n hx hb d_C_fromCode_26 rfl (lv_at hl 0 rfl) ?_
    refine lv_ldc2 (v := 3) hx hb hown (hw _ ww_157) d_C_fromCode_27 ?_
    refine W.lcmp hx hb d_C_fromCode_30 ?_
    obtain ⟨j6, q8, hF⟩ := Option.bind_eq_some_iff.mp hF
    have z_j6 : j6 = 0 ∨ j6 = 1 := by
      have h := q8
      (repeat' (split at h)) <;> (obtain rfl := Option.some.inj h; first | exact Or.inl rfl | exact Or.inr rfl)
    have k7 : ∀ (ls : Array Slot), lv_has ls 4 [] → W p l e rm_C_fromCode s m ([Value.long a0] : List Value).toArray below meth c s.heap [] 0 0 (MQ below (vp_Sl (fun z => z = r)) ([Value.long a0] : List Value).toArray s 0 0 (fun _ => False)) (F0 m 39 ls [.int j6, .long (a0 - a0 / 4294967296 * 4294967296)]) := by
      intro ls hl
      obtain ⟨r10, e_r10, hF⟩ := Option.bind_eq_some_iff.mp hF
      refine vp_callSl (va_runS (As := [.long (a0 - a0 / 4294967296 * 4294967296), .int j6]) (rest := []) ⟨hx, hb, hml, hown, hts⟩ (k_C_pointAt l (a0 - a0 / 4294967296 * 4294967296) j6 r10 e_r10) (va_cwS 2 hts (ga_S ww_330 ww_83 ww_11 ww_84) rfl rfl rfl (by decide +kernel) ⟨by decide, by decide⟩) (pcs_pre hN) rfl rfl hl.1 rfl (lv_room (Nat.le_of_ble_eq_true rfl)) d_C_fromCode_39 ⟨Nat.zero_le _, Nat.zero_le _⟩).run (fun z9 hz9 => ?_)
      obtain rfl : r10 = z9 := hz9.symm
      refine lv_goto hx hb d_C_fromCode_42 (tgt := 46) (by decide) ?_
      obtain rfl := Option.some.inj hF
      exact k3 ls (lv_sub hl [] rfl)
    clear hF
    have hF := q8
    refine lv_if_ne hx hb d_C_fromCode_31 (tgt := 38) (by decide) (fun h9 => ?_) (fun h9 => ?_)
    · have hF := (if_neg h9).symm.trans hF
      refine lv_iconst (v := 0) hx hb d_C_fromCode_38 (by decide) ?_
      obtain rfl := Option.some.inj hF
      exact k7 ls (lv_sub hl [] rfl)
    · have hF := (if_pos h9).symm.trans hF
      refine lv_iconst (v := 1) hx hb d_C_fromCode_34 (by decide) ?_
      refine lv_goto hx hb d_C_fromCode_35 (tgt := 39) (by decide) ?_
      obtain rfl := Option.some.inj hF
      exact k7 ls (lv_sub hl [] rfl)
  · have hF := (if_neg h9).symm.trans hF
    refine lv_lload_n hx hb d_C_fromCode_13 rfl (lv_at hl 0 rfl) ?_
    refine lv_ldc2 (v := 3) hx hb hown (hw _ ww_157) d_C_fromCode_14 ?_
    refine W.lcmp hx hb d_C_fromCode_17 ?_
    refine lv_if_ne hx hb d_C_fromCode_18 (tgt := 45) (by decide) (fun h9 => ?_) (fun h9 => ?_)
    · have hF := (if_neg h9).symm.trans hF
      refine lv_lconst (v := 0) hx hb d_C_fromCode_45 (by decide) ?_
      obtain rfl := Option.some.inj hF
      exact k3 ls (lv_sub hl [] rfl)
    · have hF := (if_pos h9).symm.trans hF
      refine lv_lload_n hx hb d_C_fromCode_21 rfl (lv_at hl 1 rfl) ?_
      refine lv_ldc2 (v := 4294967296) hx hb hown (hw _ ww_95) d_C_fromCode_22 ?_
      refine lv_lrem hx hb d_C_fromCode_25 (by decide) ?_
      refine lv_lload_n hx hb d_C_fromCode_26 rfl (lv_at hl 0 rfl) ?_
      refine lv_ldc2 (v := 3) hx hb hown (hw _ ww_157) d_C_fromCode_27 ?_
      refine W.lcmp hx hb d_C_fromCode_30 ?_
      obtain ⟨j11, q13, hF⟩ := Option.bind_eq_some_iff.mp hF
      have z_j11 : j11 = 0 ∨ j11 = 1 := by
        have h := q13
        (repeat' (split at h)) <;> (obtain rfl := Option.some.inj h; first | exact Or.inl rfl | exact Or.inr rfl)
      have k12 : ∀ (ls : Array Slot), lv_has ls 4 [] → W p l e rm_C_fromCode s m ([Value.long a0] : List Value).toArray below meth c s.heap [] 0 0 (MQ below (vp_Sl (fun z => z = r)) ([Value.long a0] : List Value).toArray s 0 0 (fun _ => False)) (F0 m 39 ls [.int j11, .long (a0 - a0 / 4294967296 * 4294967296)]) := by
        intro ls hl
        obtain ⟨r15, e_r15, hF⟩ := Option.bind_eq_some_iff.mp hF
        refine vp_callSl (va_runS (As := [.long (a0 - a0 / 4294967296 * 4294967296), .int j11]) (rest := []) ⟨hx, hb, hml, hown, hts⟩ (k_C_pointAt l (a0 - a0 / 4294967296 * 4294967296) j11 r15 e_r15) (va_cwS 2 hts (ga_S ww_330 ww_83 ww_11 ww_84) rfl rfl rfl (by decide +kernel) ⟨by decide, by decide⟩) (pcs_pre hN) rfl rfl hl.1 rfl (lv_room (Nat.le_of_ble_eq_true rfl)) d_C_fromCode_39 ⟨Nat.zero_le _, Nat.zero_le _⟩).run (fun z9 hz9 => ?_)
        obtain rfl : r15 = z9 := hz9.symm
        refine lv_goto hx hb d_C_fromCode_42 (tgt := 46) (by decide) ?_
        obtain rfl := Option.some.inj hF
        exact k3 ls (lv_sub hl [] rfl)
      clear hF
      have hF := q13
      refine lv_if_ne hx hb d_C_fromCode_31 (tgt := 38) (by decide) (fun h9 => ?_) (fun h9 => ?_)
      · have hF := (if_neg h9).symm.trans hF
        refine lv_iconst (v := 0) hx hb d_C_fromCode_38 (by decide) ?_
        obtain rfl := Option.some.inj hF
        exact k12 ls (lv_sub hl [] rfl)
      · have hF := (if_pos h9).symm.trans hF
        refine lv_iconst (v := 1) hx hb d_C_fromCode_34 (by decide) ?_
        refine lv_goto hx hb d_C_fromCode_35 (tgt := 39) (by decide) ?_
        obtain rfl := Option.some.inj hF
        exact k12 ls (lv_sub hl [] rfl)
def f_C_sum (a0 : Int64) (a1 : Int64) : Option Int64 := if (lg_cmp a0 0) = 0 then (some (a1)) else (if (lg_cmp a1 0) = 0 then (some (a0)) else (Option.bind (f_C_xOf a0) (fun r1 => Option.bind (f_C_yOf a0) (fun r2 => Option.bind (f_C_xOf a1) (fun r3 => if (lg_cmp r1 r3) = 0 then (if (lg_cmp a0 a1) = 0 then (Option.bind (if (lg_cmp a0 a1) = 0 then (Option.bind (f_F_quotient ((3 * r1) * r1) (2 * r2)) (fun r21 => some (r21)) : Option (Int64)) else (Option.bind (f_C_yOf a1) (fun r19 => Option.bind (f_F_quotient (r19 - r2) (r3 - r1)) (fun r20 => some (r20))))) (fun j13 => Option.bind (f_F_reduced (((j13 * j13) - r1) - r3)) (fun r17 => Option.bind (f_F_reduced ((j13 * (r1 - r17)) - r2)) (fun r18 => some ((r17 * 4294967296) + r18))))) else (some (0))) else (Option.bind (if (lg_cmp a0 a1) = 0 then (Option.bind (f_F_quotient ((3 * r1) * r1) (2 * r2)) (fun r12 => some (r12)) : Option (Int64)) else (Option.bind (f_C_yOf a1) (fun r10 => Option.bind (f_F_quotient (r10 - r2) (r3 - r1)) (fun r11 => some (r11))))) (fun j4 => Option.bind (f_F_reduced (((j4 * j4) - r1) - r3)) (fun r8 => Option.bind (f_F_reduced ((j4 * (r1 - r8)) - r2)) (fun r9 => some ((r8 * 4294967296) + r9))))))))))
abbrev rm_C_sum : Room := { frames := 2, cells := 0, slots := 0, locals := 61 }
set_option maxHeartbeats 4000000 in
set_option maxRecDepth 100000 in
theorem k_C_sum (l : Launch) (a0 : Int64) (a1 : Int64) (r : Int64) (hF : f_C_sum a0 a1 = some r) : Met l y_C_sum (Cond.code y_C_sum b_C_sum 14 (some .long) :: wa) rm_C_sum (pcs [.long a0, .long a1]) (vp_Sl (fun z => z = r)) 0 0 (fun _ => False) := by
  refine Met.ofW (cc := b_C_sum) (maxL := 14) (ret := (some .long)) (by decide) rfl ?_
  intro p e s m args below meth c s₁ B hml hv
  obtain ⟨rfl, hN⟩ := hv
  have hx := B.exec
  have hb := B.bytes
  have hr := B.returns
  have hts := atoms_spec (ws := Cond.code y_C_sum b_C_sum 14 (some .long) :: wa) B.pre
  have hw : ∀ w ∈ wa, w.before _ s = true := fun w h => hts w (List.mem_cons_of_mem _ h)
  have hown : s.vm.findClass R_C = some m.cls := findClass_of_methodNamed B.named
  have hlocks := B.notSynchronized
  have hl := lv_entry ([.long a0, .long a1]) (n := 14) (Nat.le_of_ble_eq_true rfl)
  rw [lg_entry_eq]
  generalize (lg_sl ([.long a0, .long a1]) ++ List.replicate (14 - (lg_sl ([.long a0, .long a1])).length) Slot.unset).toArray = ls at hl ⊢
  have hl : lv_has ls 14 [(0, .long a0), (2, .long a1)] := hl
  unfold f_C_sum at hF
  refine lv_lload_n hx hb d_C_sum_0 rfl (lv_at hl 0 rfl) ?_
  refine lv_lconst (v := 0) hx hb d_C_sum_1 (by decide) ?_
  refine W.lcmp hx hb d_C_sum_2 ?_
  refine lv_if_ne hx hb d_C_sum_3 (tgt := 8) (by decide) (fun h9 => ?_) (fun h9 => ?_)
  · have hF := (if_neg h9).symm.trans hF
    refine lv_lload_n hx hb d_C_sum_8 rfl (lv_at hl 1 rfl) ?_
    refine lv_lconst (v := 0) hx hb d_C_sum_9 (by decide) ?_
    refine W.lcmp hx hb d_C_sum_10 ?_
    refine lv_if_ne hx hb d_C_sum_11 (tgt := 16) (by decide) (fun h9 => ?_) (fun h9 => ?_)
    · have hF := (if_neg h9).symm.trans hF
      refine lv_lload_n hx hb d_C_sum_16 rfl (lv_at hl 0 rfl) ?_
      obtain ⟨r1, e_r1, hF⟩ := Option.bind_eq_some_iff.mp hF
      refine vp_callSl (va_runS (As := [.long a0]) (rest := []) ⟨hx, hb, hml, hown, hts⟩ (k_C_xOf l a0 r1 e_r1) (va_cwS 1 hts (ga_S ww_103 ww_104 ww_11 ww_105) rfl rfl rfl (by decide +kernel) ⟨by decide, by decide⟩) (pcs_pre hN) rfl rfl hl.1 rfl (lv_room (Nat.le_of_ble_eq_true rfl)) d_C_sum_17 ⟨Nat.zero_le _, Nat.zero_le _⟩).run (fun z9 hz9 => ?_)
      obtain rfl : r1 = z9 := hz9.symm
      refine lv_lstore hx hb d_C_sum_20 hl (by decide) (lv' := [(4, .long r1), (0, .long a0), (2, .long a1)]) rfl (fun ls hl => ?_)
      refine lv_lload_n hx hb d_C_sum_22 rfl (lv_at hl 1 rfl) ?_
      obtain ⟨r2, e_r2, hF⟩ := Option.bind_eq_some_iff.mp hF
      refine vp_callSl (va_runS (As := [.long a0]) (rest := []) ⟨hx, hb, hml, hown, hts⟩ (k_C_yOf l a0 r2 e_r2) (va_cwS 1 hts (ga_S ww_106 ww_107 ww_11 ww_108) rfl rfl rfl (by decide +kernel) ⟨by decide, by decide⟩) (pcs_pre hN) rfl rfl hl.1 rfl (lv_room (Nat.le_of_ble_eq_true rfl)) d_C_sum_23 ⟨Nat.zero_le _, Nat.zero_le _⟩).run (fun z9 hz9 => ?_)
      obtain rfl : r2 = z9 := hz9.symm
      refine lv_lstore hx hb d_C_sum_26 hl (by decide) (lv' := [(6, .long r2), (4, .long r1), (0, .long a0), (2, .long a1)]) rfl (fun ls hl => ?_)
      refine lv_lload_n hx hb d_C_sum_28 rfl (lv_at hl 3 rfl) ?_
      obtain ⟨r3, e_r3, hF⟩ := Option.bind_eq_some_iff.mp hF
      refine vp_callSl (va_runS (As := [.long a1]) (rest := []) ⟨hx, hb, hml, hown, hts⟩ (k_C_xOf l a1 r3 e_r3) (va_cwS 1 hts (ga_S ww_103 ww_104 ww_11 ww_105) rfl rfl rfl (by decide +kernel) ⟨by decide, by decide⟩) (pcs_pre hN) rfl rfl hl.1 rfl (lv_room (Nat.le_of_ble_eq_true rfl)) d_C_sum_29 ⟨Nat.zero_le _, Nat.zero_le _⟩).run (fun z9 hz9 => ?_)
      obtain rfl : r3 = z9 := hz9.symm
      refine lv_lstore hx hb d_C_sum_32 hl (by decide) (lv' := [(8, .long r3), (6, .long r2), (4, .long r1), (0, .long a0), (2, .long a1)]) rfl (fun ls hl => ?_)
      refine lv_lload hx hb d_C_sum_34 (lv_at hl 2 rfl) ?_
      refine lv_lload hx hb d_C_sum_36 (lv_at hl 0 rfl) ?_
      refine W.lcmp hx hb d_C_sum_38 ?_
      refine lv_if_ne hx hb d_C_sum_39 (tgt := 50) (by decide) (fun h9 => ?_) (fun h9 => ?_)
      · have hF := (if_neg h9).symm.trans hF
        refine lv_lload_n hx hb d_C_sum_50 rfl (lv_at hl 3 rfl) ?_
        refine lv_lload_n hx hb d_C_sum_51 rfl (lv_at hl 4 rfl) ?_
        refine W.lcmp hx hb d_C_sum_52 ?_
        obtain ⟨j4, q6, hF⟩ := Option.bind_eq_some_iff.mp hF
        have k5 : ∀ (ls : Array Slot), lv_has ls 14 [(8, .long r3), (6, .long r2), (4, .long r1)] → W p l e rm_C_sum s m ([Value.long a0, Value.long a1] : List Value).toArray below meth c s.heap [] 0 0 (MQ below (vp_Sl (fun z => z = r)) ([Value.long a0, Value.long a1] : List Value).toArray s 0 0 (fun _ => False)) (F0 m 92 ls [.long j4]) := by
          intro ls hl
          refine lv_lstore hx hb d_C_sum_92 hl (by decide) (lv' := [(10, .long j4), (8, .long r3), (6, .long r2), (4, .long r1)]) rfl (fun ls hl => ?_)
          refine lv_lload hx hb d_C_sum_94 (lv_at hl 0 rfl) ?_
          refine lv_lload hx hb d_C_sum_96 (lv_at hl 0 rfl) ?_
          refine lv_lmul hx hb d_C_sum_98 ?_
          refine lv_lload hx hb d_C_sum_99 (lv_at hl 3 rfl) ?_
          refine lv_lsub hx hb d_C_sum_101 ?_
          refine lv_lload hx hb d_C_sum_102 (lv_at hl 1 rfl) ?_
          refine lv_lsub hx hb d_C_sum_104 ?_
          obtain ⟨r8, e_r8, hF⟩ := Option.bind_eq_some_iff.mp hF
          refine vp_callSl (va_runS (As := [.long (((j4 * j4) - r1) - r3)]) (rest := []) ⟨hx, hb, hml, hown, hts⟩ (k_F_reduced l (((j4 * j4) - r1) - r3) r8 e_r8) (va_cwS 1 hts (ga_S ww_167 ww_162 ww_12 ww_163) rfl rfl rfl (by decide +kernel) ⟨by decide, by decide⟩) (pcs_pre hN) rfl rfl hl.1 rfl (lv_room (Nat.le_of_ble_eq_true rfl)) d_C_sum_105 ⟨Nat.zero_le _, Nat.zero_le _⟩).run (fun z9 hz9 => ?_)
          obtain rfl : r8 = z9 := hz9.symm
          refine lv_lstore hx hb d_C_sum_108 hl (by decide) (lv' := [(12, .long r8), (10, .long j4), (8, .long r3), (6, .long r2), (4, .long r1)]) rfl (fun ls hl => ?_)
          refine lv_lload hx hb d_C_sum_110 (lv_at hl 0 rfl) ?_
          refine lv_ldc2 (v := 4294967296) hx hb hown (hw _ ww_95) d_C_sum_112 ?_
          refine lv_lmul hx hb d_C_sum_115 ?_
          refine lv_lload hx hb d_C_sum_116 (lv_at hl 1 rfl) ?_
          refine lv_lload hx hb d_C_sum_118 (lv_at hl 4 rfl) ?_
          refine lv_lload hx hb d_C_sum_120 (lv_at hl 0 rfl) ?_
          refine lv_lsub hx hb d_C_sum_122 ?_
          refine lv_lmul hx hb d_C_sum_123 ?_
          refine lv_lload hx hb d_C_sum_124 (lv_at hl 3 rfl) ?_
          refine lv_lsub hx hb d_C_sum_126 ?_
          obtain ⟨r9, e_r9, hF⟩ := Option.bind_eq_some_iff.mp hF
          refine vp_callSl (va_runS (As := [.long ((j4 * (r1 - r8)) - r2)]) (rest := [.long (r8 * 4294967296)]) ⟨hx, hb, hml, hown, hts⟩ (k_F_reduced l ((j4 * (r1 - r8)) - r2) r9 e_r9) (va_cwS 1 hts (ga_S ww_167 ww_162 ww_12 ww_163) rfl rfl rfl (by decide +kernel) ⟨by decide, by decide⟩) (pcs_pre hN) rfl rfl hl.1 rfl (lv_room (Nat.le_of_ble_eq_true rfl)) d_C_sum_127 ⟨Nat.zero_le _, Nat.zero_le _⟩).run (fun z9 hz9 => ?_)
          obtain rfl : r9 = z9 := hz9.symm
          refine lv_ladd hx hb d_C_sum_130 ?_
          obtain rfl := Option.some.inj hF
          exact W.lret hx hb hr (fun t ht hW => ⟨_, rfl, rfl, ht⟩) (fun _ h => nomatch h) d_C_sum_131
        clear hF
        have hF := q6
        refine lv_if_ne hx hb d_C_sum_53 (tgt := 77) (by decide) (fun h9 => ?_) (fun h9 => ?_)
        · have hF := (if_neg h9).symm.trans hF
          refine lv_lload_n hx hb d_C_sum_77 rfl (lv_at hl 4 rfl) ?_
          obtain ⟨r10, e_r10, hF⟩ := Option.bind_eq_some_iff.mp hF
          refine vp_callSl (va_runS (As := [.long a1]) (rest := []) ⟨hx, hb, hml, hown, hts⟩ (k_C_yOf l a1 r10 e_r10) (va_cwS 1 hts (ga_S ww_106 ww_107 ww_11 ww_108) rfl rfl rfl (by decide +kernel) ⟨by decide, by decide⟩) (pcs_pre hN) rfl rfl hl.1 rfl (lv_room (Nat.le_of_ble_eq_true rfl)) d_C_sum_78 ⟨Nat.zero_le _, Nat.zero_le _⟩).run (fun z9 hz9 => ?_)
          obtain rfl : r10 = z9 := hz9.symm
          refine lv_lload hx hb d_C_sum_81 (lv_at hl 1 rfl) ?_
          refine lv_lsub hx hb d_C_sum_83 ?_
          refine lv_lload hx hb d_C_sum_84 (lv_at hl 0 rfl) ?_
          refine lv_lload hx hb d_C_sum_86 (lv_at hl 2 rfl) ?_
          refine lv_lsub hx hb d_C_sum_88 ?_
          obtain ⟨r11, e_r11, hF⟩ := Option.bind_eq_some_iff.mp hF
          refine vp_callSl (va_runS (As := [.long (r10 - r2), .long (r3 - r1)]) (rest := []) ⟨hx, hb, hml, hown, hts⟩ (k_F_quotient l (r10 - r2) (r3 - r1) r11 e_r11) (va_cwS 2 hts (ga_S ww_158 ww_159 ww_12 ww_160) rfl rfl rfl (by decide +kernel) ⟨by decide, by decide⟩) (pcs_pre hN) rfl rfl hl.1 rfl (lv_room (Nat.le_of_ble_eq_true rfl)) d_C_sum_89 ⟨Nat.zero_le _, Nat.zero_le _⟩).run (fun z9 hz9 => ?_)
          obtain rfl : r11 = z9 := hz9.symm
          obtain rfl := Option.some.inj hF
          exact k5 ls (lv_sub hl [0, 1, 2] rfl)
        · have hF := (if_pos h9).symm.trans hF
          refine lv_ldc2 (v := 3) hx hb hown (hw _ ww_157) d_C_sum_56 ?_
          refine lv_lload hx hb d_C_sum_59 (lv_at hl 2 rfl) ?_
          refine lv_lmul hx hb d_C_sum_61 ?_
          refine lv_lload hx hb d_C_sum_62 (lv_at hl 2 rfl) ?_
          refine lv_lmul hx hb d_C_sum_64 ?_
          refine lv_ldc2 (v := 2) hx hb hown (hw _ ww_99) d_C_sum_65 ?_
          refine lv_lload hx hb d_C_sum_68 (lv_at hl 1 rfl) ?_
          refine lv_lmul hx hb d_C_sum_70 ?_
          obtain ⟨r12, e_r12, hF⟩ := Option.bind_eq_some_iff.mp hF
          refine vp_callSl (va_runS (As := [.long ((3 * r1) * r1), .long (2 * r2)]) (rest := []) ⟨hx, hb, hml, hown, hts⟩ (k_F_quotient l ((3 * r1) * r1) (2 * r2) r12 e_r12) (va_cwS 2 hts (ga_S ww_158 ww_159 ww_12 ww_160) rfl rfl rfl (by decide +kernel) ⟨by decide, by decide⟩) (pcs_pre hN) rfl rfl hl.1 rfl (lv_room (Nat.le_of_ble_eq_true rfl)) d_C_sum_71 ⟨Nat.zero_le _, Nat.zero_le _⟩).run (fun z9 hz9 => ?_)
          obtain rfl : r12 = z9 := hz9.symm
          refine lv_goto hx hb d_C_sum_74 (tgt := 92) (by decide) ?_
          obtain rfl := Option.some.inj hF
          exact k5 ls (lv_sub hl [0, 1, 2] rfl)
      · have hF := (if_pos h9).symm.trans hF
        refine lv_lload_n hx hb d_C_sum_42 rfl (lv_at hl 3 rfl) ?_
        refine lv_lload_n hx hb d_C_sum_43 rfl (lv_at hl 4 rfl) ?_
        refine W.lcmp hx hb d_C_sum_44 ?_
        refine lv_if_eq hx hb d_C_sum_45 (tgt := 50) (by decide) (fun h9 => ?_) (fun h9 => ?_)
        · have hF := (if_pos h9).symm.trans hF
          refine lv_lload_n hx hb d_C_sum_50 rfl (lv_at hl 3 rfl) ?_
          refine lv_lload_n hx hb d_C_sum_51 rfl (lv_at hl 4 rfl) ?_
          refine W.lcmp hx hb d_C_sum_52 ?_
          obtain ⟨j13, q15, hF⟩ := Option.bind_eq_some_iff.mp hF
          have k14 : ∀ (ls : Array Slot), lv_has ls 14 [(8, .long r3), (6, .long r2), (4, .long r1)] → W p l e rm_C_sum s m ([Value.long a0, Value.long a1] : List Value).toArray below meth c s.heap [] 0 0 (MQ below (vp_Sl (fun z => z = r)) ([Value.long a0, Value.long a1] : List Value).toArray s 0 0 (fun _ => False)) (F0 m 92 ls [.long j13]) := by
            intro ls hl
            refine lv_lstore hx hb d_C_sum_92 hl (by decide) (lv' := [(10, .long j13), (8, .long r3), (6, .long r2), (4, .long r1)]) rfl (fun ls hl => ?_)
            refine lv_lload hx hb d_C_sum_94 (lv_at hl 0 rfl) ?_
            refine lv_lload hx hb d_C_sum_96 (lv_at hl 0 rfl) ?_
            refine lv_lmul hx hb d_C_sum_98 ?_
            refine lv_lload hx hb d_C_sum_99 (lv_at hl 3 rfl) ?_
            refine lv_lsub hx hb d_C_sum_101 ?_
            refine lv_lload hx hb d_C_sum_102 (lv_at hl 1 rfl) ?_
            refine lv_lsub hx hb d_C_sum_104 ?_
            obtain ⟨r17, e_r17, hF⟩ := Option.bind_eq_some_iff.mp hF
            refine vp_callSl (va_runS (As := [.long (((j13 * j13) - r1) - r3)]) (rest := []) ⟨hx, hb, hml, hown, hts⟩ (k_F_reduced l (((j13 * j13) - r1) - r3) r17 e_r17) (va_cwS 1 hts (ga_S ww_167 ww_162 ww_12 ww_163) rfl rfl rfl (by decide +kernel) ⟨by decide, by decide⟩) (pcs_pre hN) rfl rfl hl.1 rfl (lv_room (Nat.le_of_ble_eq_true rfl)) d_C_sum_105 ⟨Nat.zero_le _, Nat.zero_le _⟩).run (fun z9 hz9 => ?_)
            obtain rfl : r17 = z9 := hz9.symm
            refine lv_lstore hx hb d_C_sum_108 hl (by decide) (lv' := [(12, .long r17), (10, .long j13), (8, .long r3), (6, .long r2), (4, .long r1)]) rfl (fun ls hl => ?_)
            refine lv_lload hx hb d_C_sum_110 (lv_at hl 0 rfl) ?_
            refine lv_ldc2 (v := 4294967296) hx hb hown (hw _ ww_95) d_C_sum_112 ?_
            refine lv_lmul hx hb d_C_sum_115 ?_
            refine lv_lload hx hb d_C_sum_116 (lv_at hl 1 rfl) ?_
            refine lv_lload hx hb d_C_sum_118 (lv_at hl 4 rfl) ?_
            refine lv_lload hx hb d_C_sum_120 (lv_at hl 0 rfl) ?_
            refine lv_lsub hx hb d_C_sum_122 ?_
            refine lv_lmul hx hb d_C_sum_123 ?_
            refine lv_lload hx hb d_C_sum_124 (lv_at hl 3 rfl) ?_
            refine lv_lsub hx hb d_C_sum_126 ?_
            obtain ⟨r18, e_r18, hF⟩ := Option.bind_eq_some_iff.mp hF
            refine vp_callSl (va_runS (As := [.long ((j13 * (r1 - r17)) - r2)]) (rest := [.long (r17 * 4294967296)]) ⟨hx, hb, hml, hown, hts⟩ (k_F_reduced l ((j13 * (r1 - r17)) - r2) r18 e_r18) (va_cwS 1 hts (ga_S ww_167 ww_162 ww_12 ww_163) rfl rfl rfl (by decide +kernel) ⟨by decide, by decide⟩) (pcs_pre hN) rfl rfl hl.1 rfl (lv_room (Nat.le_of_ble_eq_true rfl)) d_C_sum_127 ⟨Nat.zero_le _, Nat.zero_le _⟩).run (fun z9 hz9 => ?_)
            obtain rfl : r18 = z9 := hz9.symm
            refine lv_ladd hx hb d_C_sum_130 ?_
            obtain rfl := Option.some.inj hF
            exact W.lret hx hb hr (fun t ht hW => ⟨_, rfl, rfl, ht⟩) (fun _ h => nomatch h) d_C_sum_131
          clear hF
          have hF := q15
          refine lv_if_ne hx hb d_C_sum_53 (tgt := 77) (by decide) (fun h9 => ?_) (fun h9 => ?_)
          · have hF := (if_neg h9).symm.trans hF
            refine lv_lload_n hx hb d_C_sum_77 rfl (lv_at hl 4 rfl) ?_
            obtain ⟨r19, e_r19, hF⟩ := Option.bind_eq_some_iff.mp hF
            refine vp_callSl (va_runS (As := [.long a1]) (rest := []) ⟨hx, hb, hml, hown, hts⟩ (k_C_yOf l a1 r19 e_r19) (va_cwS 1 hts (ga_S ww_106 ww_107 ww_11 ww_108) rfl rfl rfl (by decide +kernel) ⟨by decide, by decide⟩) (pcs_pre hN) rfl rfl hl.1 rfl (lv_room (Nat.le_of_ble_eq_true rfl)) d_C_sum_78 ⟨Nat.zero_le _, Nat.zero_le _⟩).run (fun z9 hz9 => ?_)
            obtain rfl : r19 = z9 := hz9.symm
            refine lv_lload hx hb d_C_sum_81 (lv_at hl 1 rfl) ?_
            refine lv_lsub hx hb d_C_sum_83 ?_
            refine lv_lload hx hb d_C_sum_84 (lv_at hl 0 rfl) ?_
            refine lv_lload hx hb d_C_sum_86 (lv_at hl 2 rfl) ?_
            refine lv_lsub hx hb d_C_sum_88 ?_
            obtain ⟨r20, e_r20, hF⟩ := Option.bind_eq_some_iff.mp hF
            refine vp_callSl (va_runS (As := [.long (r19 - r2), .long (r3 - r1)]) (rest := []) ⟨hx, hb, hml, hown, hts⟩ (k_F_quotient l (r19 - r2) (r3 - r1) r20 e_r20) (va_cwS 2 hts (ga_S ww_158 ww_159 ww_12 ww_160) rfl rfl rfl (by decide +kernel) ⟨by decide, by decide⟩) (pcs_pre hN) rfl rfl hl.1 rfl (lv_room (Nat.le_of_ble_eq_true rfl)) d_C_sum_89 ⟨Nat.zero_le _, Nat.zero_le _⟩).run (fun z9 hz9 => ?_)
            obtain rfl : r20 = z9 := hz9.symm
            obtain rfl := Option.some.inj hF
            exact k14 ls (lv_sub hl [0, 1, 2] rfl)
          · have hF := (if_pos h9).symm.trans hF
            refine lv_ldc2 (v := 3) hx hb hown (hw _ ww_157) d_C_sum_56 ?_
            refine lv_lload hx hb d_C_sum_59 (lv_at hl 2 rfl) ?_
            refine lv_lmul hx hb d_C_sum_61 ?_
            refine lv_lload hx hb d_C_sum_62 (lv_at hl 2 rfl) ?_
            refine lv_lmul hx hb d_C_sum_64 ?_
            refine lv_ldc2 (v := 2) hx hb hown (hw _ ww_99) d_C_sum_65 ?_
            refine lv_lload hx hb d_C_sum_68 (lv_at hl 1 rfl) ?_
            refine lv_lmul hx hb d_C_sum_70 ?_
            obtain ⟨r21, e_r21, hF⟩ := Option.bind_eq_some_iff.mp hF
            refine vp_callSl (va_runS (As := [.long ((3 * r1) * r1), .long (2 * r2)]) (rest := []) ⟨hx, hb, hml, hown, hts⟩ (k_F_quotient l ((3 * r1) * r1) (2 * r2) r21 e_r21) (va_cwS 2 hts (ga_S ww_158 ww_159 ww_12 ww_160) rfl rfl rfl (by decide +kernel) ⟨by decide, by decide⟩) (pcs_pre hN) rfl rfl hl.1 rfl (lv_room (Nat.le_of_ble_eq_true rfl)) d_C_sum_71 ⟨Nat.zero_le _, Nat.zero_le _⟩).run (fun z9 hz9 => ?_)
            obtain rfl : r21 = z9 := hz9.symm
            refine lv_goto hx hb d_C_sum_74 (tgt := 92) (by decide) ?_
            obtain rfl := Option.some.inj hF
            exact k14 ls (lv_sub hl [0, 1, 2] rfl)
        · have hF := (if_neg h9).symm.trans hF
          refine lv_lconst (v := 0) hx hb d_C_sum_48 (by decide) ?_
          obtain rfl := Option.some.inj hF
          exact W.lret hx hb hr (fun t ht hW => ⟨_, rfl, rfl, ht⟩) (fun _ h => nomatch h) d_C_sum_49
    · have hF := (if_pos h9).symm.trans hF
      refine lv_lload_n hx hb d_C_sum_14 rfl (lv_at hl 0 rfl) ?_
      obtain rfl := Option.some.inj hF
      exact W.lret hx hb hr (fun t ht hW => ⟨_, rfl, rfl, ht⟩) (fun _ h => nomatch h) d_C_sum_15
  · have hF := (if_pos h9).symm.trans hF
    refine lv_lload_n hx hb d_C_sum_6 rfl (lv_at hl 1 rfl) ?_
    obtain rfl := Option.some.inj hF
    exact W.lret hx hb hr (fun t ht hW => ⟨_, rfl, rfl, ht⟩) (fun _ h => nomatch h) d_C_sum_7
def f_C_multiple_7 (a0 : Int64) (a1 : Int64) : Nat → Int32 → Int64 → Option (Int32 × Int64)
  | 0, _, _ => none
  | n + 1, u1, u2 => if u1 < 0 then (some (u1, u2)) else (Option.bind (f_C_sum u2 u2) (fun r7 => Option.bind (if (lg_cmp (((Int64.toUInt64 a0 >>> ((Int32.toInt64 u1).toUInt64 &&& Int64.toUInt64 63)).toInt64) &&& 1) 1) = 0 then (Option.bind (f_C_sum r7 a1) (fun r13 => some (r13)) : Option (Int64)) else (some (r7))) (fun j8 => Option.bind (some (u1 + (-1))) (fun v12 => f_C_multiple_7 a0 a1 n v12 j8))))
def f_C_multiple (a0 : Int64) (a1 : Int64) : Option Int64 := Option.bind (f_C_multiple_7 a0 a1 64 29 0) (fun t15 => match t15 with | (o4, o5) => (some (o5)))
abbrev rm_C_multiple : Room := { frames := 3, cells := 0, slots := 0, locals := 94 }
set_option maxHeartbeats 4000000 in
set_option maxRecDepth 100000 in
theorem k_C_multiple (l : Launch) (a0 : Int64) (a1 : Int64) (r : Int64) (hF : f_C_multiple a0 a1 = some r) : Met l y_C_multiple (Cond.code y_C_multiple b_C_multiple 7 (some .long) :: wa) rm_C_multiple (pcs [.long a0, .long a1]) (vp_Sl (fun z => z = r)) 0 0 (fun _ => False) := by
  refine Met.ofW (cc := b_C_multiple) (maxL := 7) (ret := (some .long)) (by decide) rfl ?_
  intro p e s m args below meth c s₁ B hml hv
  obtain ⟨rfl, hN⟩ := hv
  have hx := B.exec
  have hb := B.bytes
  have hr := B.returns
  have hts := atoms_spec (ws := Cond.code y_C_multiple b_C_multiple 7 (some .long) :: wa) B.pre
  have hw : ∀ w ∈ wa, w.before _ s = true := fun w h => hts w (List.mem_cons_of_mem _ h)
  have hown : s.vm.findClass R_C = some m.cls := findClass_of_methodNamed B.named
  have hlocks := B.notSynchronized
  have hl := lv_entry ([.long a0, .long a1]) (n := 7) (Nat.le_of_ble_eq_true rfl)
  rw [lg_entry_eq]
  generalize (lg_sl ([.long a0, .long a1]) ++ List.replicate (7 - (lg_sl ([.long a0, .long a1])).length) Slot.unset).toArray = ls at hl ⊢
  have hl : lv_has ls 7 [(0, .long a0), (2, .long a1)] := hl
  unfold f_C_multiple at hF
  refine lv_lconst (v := 0) hx hb d_C_multiple_0 (by decide) ?_
  refine lv_lstore hx hb d_C_multiple_1 hl (by decide) (lv' := [(4, .long 0), (0, .long a0), (2, .long a1)]) rfl (fun ls hl => ?_)
  refine lv_bipush (v := 29) hx hb d_C_multiple_3 (by decide) ?_
  refine lv_istore hx hb d_C_multiple_5 hl (by decide) (lv' := [(6, .int 29), (4, .long 0), (0, .long a0), (2, .long a1)]) rfl (fun ls hl => ?_)
  obtain ⟨⟨o4, o5⟩, q14, hF⟩ := Option.bind_eq_some_iff.mp hF
  have k6 : ∀ (ls : Array Slot), lv_has ls 7 [(6, .int o4), (4, .long o5), (0, .long a0), (2, .long a1)] → W p l e rm_C_multiple s m ([Value.long a0, Value.long a1] : List Value).toArray below meth c s.heap [] 0 0 (MQ below (vp_Sl (fun z => z = r)) ([Value.long a0, Value.long a1] : List Value).toArray s 0 0 (fun _ => False)) (F0 m 46 ls []) := by
    intro ls hl
    refine lv_lload hx hb d_C_multiple_46 (lv_at hl 1 rfl) ?_
    obtain rfl := Option.some.inj hF
    exact W.lret hx hb hr (fun t ht hW => ⟨_, rfl, rfl, ht⟩) (fun _ h => nomatch h) d_C_multiple_48
  clear hF
  have k3 : ∀ (n : Nat) (u1 : Int32) (u2 : Int64) (ls : Array Slot), lv_has ls 7 [(6, .int u1), (4, .long u2), (0, .long a0), (2, .long a1)] → f_C_multiple_7 a0 a1 n u1 u2 = some (o4, o5) → W p l e rm_C_multiple s m ([Value.long a0, Value.long a1] : List Value).toArray below meth c s.heap [] 0 0 (MQ below (vp_Sl (fun z => z = r)) ([Value.long a0, Value.long a1] : List Value).toArray s 0 0 (fun _ => False)) (F0 m 7 ls []) := by
    intro n
    induction n with
    | zero => intro u1 u2 ls hl hF; cases hF
    | succ n ih =>
      intro u1 u2 ls hl hF
      rw [f_C_multiple_7] at hF
      refine lv_iload hx hb d_C_multiple_7 (lv_at hl 0 rfl) ?_
      refine lv_if_lt hx hb d_C_multiple_9 (tgt := 46) (by decide) (fun h9 => ?_) (fun h9 => ?_)
      · have hF := (if_pos h9).symm.trans hF
        cases Option.some.inj hF
        exact k6 ls (lv_sub hl [0, 1, 2, 3] rfl)
      · have hF := (if_neg h9).symm.trans hF
        refine lv_lload hx hb d_C_multiple_12 (lv_at hl 1 rfl) ?_
        refine lv_lload hx hb d_C_multiple_14 (lv_at hl 1 rfl) ?_
        obtain ⟨r7, e_r7, hF⟩ := Option.bind_eq_some_iff.mp hF
        refine vp_callSl (va_runS (As := [.long u2, .long u2]) (rest := []) ⟨hx, hb, hml, hown, hts⟩ (k_C_sum l u2 u2 r7 e_r7) (va_cwS 2 hts (ga_S ww_154 ww_155 ww_11 ww_156) rfl rfl rfl (by decide +kernel) ⟨by decide, by decide⟩) (pcs_pre hN) rfl rfl hl.1 rfl (lv_room (Nat.le_of_ble_eq_true rfl)) d_C_multiple_16 ⟨Nat.zero_le _, Nat.zero_le _⟩).run (fun z9 hz9 => ?_)
        obtain rfl : r7 = z9 := hz9.symm
        refine lv_lstore hx hb d_C_multiple_19 hl (by decide) (lv' := [(4, .long r7), (6, .int u1), (0, .long a0), (2, .long a1)]) rfl (fun ls hl => ?_)
        refine lv_lload_n hx hb d_C_multiple_21 rfl (lv_at hl 2 rfl) ?_
        refine lv_iload hx hb d_C_multiple_22 (lv_at hl 1 rfl) ?_
        refine lv_lushr (v := (Int64.toUInt64 a0 >>> ((Int32.toInt64 u1).toUInt64 &&& Int64.toUInt64 63)).toInt64) hx hb d_C_multiple_24 rfl ?_
        refine lv_lconst (v := 1) hx hb d_C_multiple_25 (by decide) ?_
        refine lv_land hx hb d_C_multiple_26 ?_
        refine lv_lconst (v := 1) hx hb d_C_multiple_27 (by decide) ?_
        refine W.lcmp hx hb d_C_multiple_28 ?_
        obtain ⟨j8, q10, hF⟩ := Option.bind_eq_some_iff.mp hF
        have k9 : ∀ (ls : Array Slot), lv_has ls 7 [(4, .long j8), (6, .int u1), (0, .long a0), (2, .long a1)] → W p l e rm_C_multiple s m ([Value.long a0, Value.long a1] : List Value).toArray below meth c s.heap [] 0 0 (MQ below (vp_Sl (fun z => z = r)) ([Value.long a0, Value.long a1] : List Value).toArray s 0 0 (fun _ => False)) (F0 m 40 ls []) := by
          intro ls hl
          obtain ⟨v12, e_v12, hF⟩ := Option.bind_eq_some_iff.mp hF
          refine lv_iinc hx hb d_C_multiple_40 hl (k := 1) (v := v12) rfl ((show _ = u1 + (-1) from rfl).trans (Option.some.inj e_v12)) (by decide) (lv' := [(6, .int v12), (4, .long j8), (0, .long a0), (2, .long a1)]) rfl (fun ls hl => ?_)
          refine lv_goto hx hb d_C_multiple_43 (tgt := 7) (by decide) ?_
          exact ih v12 j8 ls (lv_sub hl [0, 1, 2, 3] rfl) hF
        clear hF
        have hF := q10
        refine lv_if_ne hx hb d_C_multiple_29 (tgt := 40) (by decide) (fun h9 => ?_) (fun h9 => ?_)
        · have hF := (if_neg h9).symm.trans hF
          obtain rfl := Option.some.inj hF
          exact k9 ls (lv_sub hl [0, 1, 2, 3] rfl)
        · have hF := (if_pos h9).symm.trans hF
          refine lv_lload hx hb d_C_multiple_32 (lv_at hl 0 rfl) ?_
          refine lv_lload_n hx hb d_C_multiple_34 rfl (lv_at hl 3 rfl) ?_
          obtain ⟨r13, e_r13, hF⟩ := Option.bind_eq_some_iff.mp hF
          refine vp_callSl (va_runS (As := [.long r7, .long a1]) (rest := []) ⟨hx, hb, hml, hown, hts⟩ (k_C_sum l r7 a1 r13 e_r13) (va_cwS 2 hts (ga_S ww_154 ww_155 ww_11 ww_156) rfl rfl rfl (by decide +kernel) ⟨by decide, by decide⟩) (pcs_pre hN) rfl rfl hl.1 rfl (lv_room (Nat.le_of_ble_eq_true rfl)) d_C_multiple_35 ⟨Nat.zero_le _, Nat.zero_le _⟩).run (fun z9 hz9 => ?_)
          obtain rfl : r13 = z9 := hz9.symm
          refine lv_lstore hx hb d_C_multiple_38 hl (by decide) (lv' := [(4, .long r13), (6, .int u1), (0, .long a0), (2, .long a1)]) rfl (fun ls hl => ?_)
          obtain rfl := Option.some.inj hF
          exact k9 ls (lv_sub hl [0, 1, 2, 3] rfl)
  exact k3 64 29 0 ls (lv_sub hl [0, 1, 2, 3] rfl) q14
def f_C_sumOfMultiples (a0 : Int64) (a1 : Int64) (a2 : Int64) (a3 : Int64) : Option Int64 := Option.bind (f_C_multiple a0 a1) (fun r1 => Option.bind (f_C_multiple a2 a3) (fun r2 => Option.bind (f_C_sum r1 r2) (fun r3 => some (r3))))
abbrev rm_C_sumOfMultiples : Room := { frames := 4, cells := 0, slots := 0, locals := 120 }
set_option maxHeartbeats 4000000 in
set_option maxRecDepth 100000 in
theorem k_C_sumOfMultiples (l : Launch) (a0 : Int64) (a1 : Int64) (a2 : Int64) (a3 : Int64) (r : Int64) (hF : f_C_sumOfMultiples a0 a1 a2 a3 = some r) : Met l y_C_sumOfMultiples (Cond.code y_C_sumOfMultiples b_C_sumOfMultiples 8 (some .long) :: wa) rm_C_sumOfMultiples (pcs [.long a0, .long a1, .long a2, .long a3]) (vp_Sl (fun z => z = r)) 0 0 (fun _ => False) := by
  refine Met.ofW (cc := b_C_sumOfMultiples) (maxL := 8) (ret := (some .long)) (by decide) rfl ?_
  intro p e s m args below meth c s₁ B hml hv
  obtain ⟨rfl, hN⟩ := hv
  have hx := B.exec
  have hb := B.bytes
  have hr := B.returns
  have hts := atoms_spec (ws := Cond.code y_C_sumOfMultiples b_C_sumOfMultiples 8 (some .long) :: wa) B.pre
  have hw : ∀ w ∈ wa, w.before _ s = true := fun w h => hts w (List.mem_cons_of_mem _ h)
  have hown : s.vm.findClass R_C = some m.cls := findClass_of_methodNamed B.named
  have hlocks := B.notSynchronized
  have hl := lv_entry ([.long a0, .long a1, .long a2, .long a3]) (n := 8) (Nat.le_of_ble_eq_true rfl)
  rw [lg_entry_eq]
  generalize (lg_sl ([.long a0, .long a1, .long a2, .long a3]) ++ List.replicate (8 - (lg_sl ([.long a0, .long a1, .long a2, .long a3])).length) Slot.unset).toArray = ls at hl ⊢
  have hl : lv_has ls 8 [(0, .long a0), (2, .long a1), (4, .long a2), (6, .long a3)] := hl
  unfold f_C_sumOfMultiples at hF
  refine lv_lload_n hx hb d_C_sumOfMultiples_0 rfl (lv_at hl 0 rfl) ?_
  refine lv_lload_n hx hb d_C_sumOfMultiples_1 rfl (lv_at hl 1 rfl) ?_
  obtain ⟨r1, e_r1, hF⟩ := Option.bind_eq_some_iff.mp hF
  refine vp_callSl (va_runS (As := [.long a0, .long a1]) (rest := []) ⟨hx, hb, hml, hown, hts⟩ (k_C_multiple l a0 a1 r1 e_r1) (va_cwS 2 hts (ga_S ww_151 ww_152 ww_11 ww_153) rfl rfl rfl (by decide +kernel) ⟨by decide, by decide⟩) (pcs_pre hN) rfl rfl hl.1 rfl (lv_room (Nat.le_of_ble_eq_true rfl)) d_C_sumOfMultiples_2 ⟨Nat.zero_le _, Nat.zero_le _⟩).run (fun z9 hz9 => ?_)
  obtain rfl : r1 = z9 := hz9.symm
  refine lv_lload hx hb d_C_sumOfMultiples_5 (lv_at hl 2 rfl) ?_
  refine lv_lload hx hb d_C_sumOfMultiples_7 (lv_at hl 3 rfl) ?_
  obtain ⟨r2, e_r2, hF⟩ := Option.bind_eq_some_iff.mp hF
  refine vp_callSl (va_runS (As := [.long a2, .long a3]) (rest := [.long r1]) ⟨hx, hb, hml, hown, hts⟩ (k_C_multiple l a2 a3 r2 e_r2) (va_cwS 2 hts (ga_S ww_151 ww_152 ww_11 ww_153) rfl rfl rfl (by decide +kernel) ⟨by decide, by decide⟩) (pcs_pre hN) rfl rfl hl.1 rfl (lv_room (Nat.le_of_ble_eq_true rfl)) d_C_sumOfMultiples_9 ⟨Nat.zero_le _, Nat.zero_le _⟩).run (fun z9 hz9 => ?_)
  obtain rfl : r2 = z9 := hz9.symm
  obtain ⟨r3, e_r3, hF⟩ := Option.bind_eq_some_iff.mp hF
  refine vp_callSl (va_runS (As := [.long r1, .long r2]) (rest := []) ⟨hx, hb, hml, hown, hts⟩ (k_C_sum l r1 r2 r3 e_r3) (va_cwS 2 hts (ga_S ww_154 ww_155 ww_11 ww_156) rfl rfl rfl (by decide +kernel) ⟨by decide, by decide⟩) (pcs_pre hN) rfl rfl hl.1 rfl (lv_room (Nat.le_of_ble_eq_true rfl)) d_C_sumOfMultiples_12 ⟨Nat.zero_le _, Nat.zero_le _⟩).run (fun z9 hz9 => ?_)
  obtain rfl : r3 = z9 := hz9.symm
  obtain rfl := Option.some.inj hF
  exact W.lret hx hb hr (fun t ht hW => ⟨_, rfl, rfl, ht⟩) (fun _ h => nomatch h) d_C_sumOfMultiples_15
def f_I_weight (a0 : Int64) (a1 : Int32) : Option Int64 := Option.bind (if a1 = 0 then (some (1) : Option (Int64)) else (Option.bind (f_K_mix a0 (Int32.toInt64 a1)) (fun r5 => some (1 + (((Int64.toUInt64 r5 >>> ((Int32.toInt64 34).toUInt64 &&& Int64.toUInt64 63)).toInt64) - ((Int64.toUInt64 r5 >>> ((Int32.toInt64 34).toUInt64 &&& Int64.toUInt64 63)).toInt64) / 1073729076 * 1073729076))))) (fun j1 => some (j1))
abbrev rm_I_weight : Room := { frames := 1, cells := 0, slots := 0, locals := 25 }
set_option maxHeartbeats 4000000 in
set_option maxRecDepth 100000 in
theorem k_I_weight (l : Launch) (a0 : Int64) (a1 : Int32) (r : Int64) (hF : f_I_weight a0 a1 = some r) : Met l y_I_weight (Cond.code y_I_weight b_I_weight 3 (some .long) :: wa) rm_I_weight (pcs [.long a0, .int a1]) (vp_Sl (fun z => z = r)) 0 0 (fun _ => False) := by
  refine Met.ofW (cc := b_I_weight) (maxL := 3) (ret := (some .long)) (by decide) rfl ?_
  intro p e s m args below meth c s₁ B hml hv
  obtain ⟨rfl, hN⟩ := hv
  have hx := B.exec
  have hb := B.bytes
  have hr := B.returns
  have hts := atoms_spec (ws := Cond.code y_I_weight b_I_weight 3 (some .long) :: wa) B.pre
  have hw : ∀ w ∈ wa, w.before _ s = true := fun w h => hts w (List.mem_cons_of_mem _ h)
  have hown : s.vm.findClass R_I = some m.cls := findClass_of_methodNamed B.named
  have hlocks := B.notSynchronized
  have hl := lv_entry ([.long a0, .int a1]) (n := 3) (Nat.le_of_ble_eq_true rfl)
  rw [lg_entry_eq]
  generalize (lg_sl ([.long a0, .int a1]) ++ List.replicate (3 - (lg_sl ([.long a0, .int a1])).length) Slot.unset).toArray = ls at hl ⊢
  have hl : lv_has ls 3 [(0, .long a0), (2, .int a1)] := hl
  unfold f_I_weight at hF
  refine lv_iload_n hx hb d_I_weight_0 rfl (lv_at hl 1 rfl) ?_
  obtain ⟨j1, q3, hF⟩ := Option.bind_eq_some_iff.mp hF
  have k2 : ∀ (ls : Array Slot), lv_has ls 3 [] → W p l e rm_I_weight s m ([Value.long a0, Value.int a1] : List Value).toArray below meth c s.heap [] 0 0 (MQ below (vp_Sl (fun z => z = r)) ([Value.long a0, Value.int a1] : List Value).toArray s 0 0 (fun _ => False)) (F0 m 23 ls [.long j1]) := by
    intro ls hl
    obtain rfl := Option.some.inj hF
    exact W.lret hx hb hr (fun t ht hW => ⟨_, rfl, rfl, ht⟩) (fun _ h => nomatch h) d_I_weight_23
  clear hF
  have hF := q3
  refine lv_if_ne hx hb d_I_weight_1 (tgt := 8) (by decide) (fun h9 => ?_) (fun h9 => ?_)
  · have hF := (if_neg h9).symm.trans hF
    refine lv_lconst (v := 1) hx hb d_I_weight_8 (by decide) ?_
    refine lv_lload_n hx hb d_I_weight_9 rfl (lv_at hl 0 rfl) ?_
    refine lv_iload_n hx hb d_I_weight_10 rfl (lv_at hl 1 rfl) ?_
    refine lv_i2l (v := Int32.toInt64 a1) hx hb d_I_weight_11 rfl ?_
    obtain ⟨r5, e_r5, hF⟩ := Option.bind_eq_some_iff.mp hF
    refine vp_callSl (va_runSN (As := [.long a0, .long (Int32.toInt64 a1)]) (rest := [.long 1]) ⟨hx, hb, hml, hown, hts⟩ (k_K_mix l a0 (Int32.toInt64 a1) r5 e_r5) ⟨va_cnB 2 hts (ga_N ww_134) rfl rfl rfl (hN _ nl_2) (hw _ ww_1) (by decide +kernel) ⟨by decide, by decide⟩, hw _ ww_133, trivial⟩ (pcs_pre hN) rfl rfl hl.1 rfl (lv_room (Nat.le_of_ble_eq_true rfl)) d_I_weight_12 ⟨Nat.zero_le _, Nat.zero_le _⟩).run (fun z9 hz9 => ?_)
    obtain rfl : r5 = z9 := hz9.symm
    refine lv_bipush (v := 34) hx hb d_I_weight_15 (by decide) ?_
    refine lv_lushr (v := (Int64.toUInt64 r5 >>> ((Int32.toInt64 34).toUInt64 &&& Int64.toUInt64 63)).toInt64) hx hb d_I_weight_17 rfl ?_
    refine lv_ldc2 (v := 1073729076) hx hb hown (hw _ ww_138) d_I_weight_18 ?_
    refine lv_lrem hx hb d_I_weight_21 (by decide) ?_
    refine lv_ladd hx hb d_I_weight_22 ?_
    obtain rfl := Option.some.inj hF
    exact k2 ls (lv_sub hl [] rfl)
  · have hF := (if_pos h9).symm.trans hF
    refine lv_lconst (v := 1) hx hb d_I_weight_4 (by decide) ?_
    refine lv_goto hx hb d_I_weight_5 (tgt := 23) (by decide) ?_
    obtain rfl := Option.some.inj hF
    exact k2 ls (lv_sub hl [] rfl)
def f_O_bytesOf (a0 : Int32) : Option Int32 := if 128 ≤ a0 then (if 32768 ≤ a0 then (Option.bind (if 8388608 ≤ a0 then (some (4) : Option (Int32)) else (some (3))) (fun j1 => some (j1))) else (some (2))) else (some (1))
abbrev rm_O_bytesOf : Room := { frames := 0, cells := 0, slots := 0, locals := 0 }
set_option maxHeartbeats 4000000 in
set_option maxRecDepth 100000 in
theorem k_O_bytesOf (l : Launch) (a0 : Int32) (r : Int32) (hF : f_O_bytesOf a0 = some r) : Met l y_O_bytesOf (Cond.code y_O_bytesOf b_O_bytesOf 1 (some .int) :: wa) rm_O_bytesOf (pcs [.int a0]) (vp_Si (fun z => z = r)) 0 0 (fun _ => False) := by
  refine Met.ofW (cc := b_O_bytesOf) (maxL := 1) (ret := (some .int)) (by decide) rfl ?_
  intro p e s m args below meth c s₁ B hml hv
  obtain ⟨rfl, hN⟩ := hv
  have hx := B.exec
  have hb := B.bytes
  have hr := B.returns
  have hts := atoms_spec (ws := Cond.code y_O_bytesOf b_O_bytesOf 1 (some .int) :: wa) B.pre
  have hw : ∀ w ∈ wa, w.before _ s = true := fun w h => hts w (List.mem_cons_of_mem _ h)
  have hown : s.vm.findClass R_O = some m.cls := findClass_of_methodNamed B.named
  have hlocks := B.notSynchronized
  have hl := lv_entry ([.int a0]) (n := 1) (Nat.le_of_ble_eq_true rfl)
  rw [lg_entry_eq]
  generalize (lg_sl ([.int a0]) ++ List.replicate (1 - (lg_sl ([.int a0])).length) Slot.unset).toArray = ls at hl ⊢
  have hl : lv_has ls 1 [(0, .int a0)] := hl
  unfold f_O_bytesOf at hF
  refine lv_iload_n hx hb d_O_bytesOf_0 rfl (lv_at hl 0 rfl) ?_
  refine lv_sipush (v := 128) hx hb d_O_bytesOf_1 (by decide) ?_
  refine lv_icmp_ge hx hb d_O_bytesOf_4 (tgt := 9) (by decide) (fun h9 => ?_) (fun h9 => ?_)
  · have hF := (if_pos h9).symm.trans hF
    refine lv_iload_n hx hb d_O_bytesOf_9 rfl (lv_at hl 0 rfl) ?_
    refine lv_ldc (v := 32768) hx hb hown (hw _ ww_201) d_O_bytesOf_10 ?_
    refine lv_icmp_ge hx hb d_O_bytesOf_12 (tgt := 17) (by decide) (fun h9 => ?_) (fun h9 => ?_)
    · have hF := (if_pos h9).symm.trans hF
      refine lv_iload_n hx hb d_O_bytesOf_17 rfl (lv_at hl 0 rfl) ?_
      refine lv_ldc (v := 8388608) hx hb hown (hw _ ww_202) d_O_bytesOf_18 ?_
      obtain ⟨j1, q3, hF⟩ := Option.bind_eq_some_iff.mp hF
      have k2 : ∀ (ls : Array Slot), lv_has ls 1 [] → W p l e rm_O_bytesOf s m ([Value.int a0] : List Value).toArray below meth c s.heap [] 0 0 (MQ below (vp_Si (fun z => z = r)) ([Value.int a0] : List Value).toArray s 0 0 (fun _ => False)) (F0 m 28 ls [.int j1]) := by
        intro ls hl
        obtain rfl := Option.some.inj hF
        exact W.iret hx hb hr (fun t ht hW => ⟨_, rfl, rfl, ht⟩) (fun _ h => nomatch h) d_O_bytesOf_28
      clear hF
      have hF := q3
      refine lv_icmp_ge hx hb d_O_bytesOf_20 (tgt := 27) (by decide) (fun h9 => ?_) (fun h9 => ?_)
      · have hF := (if_pos h9).symm.trans hF
        refine lv_iconst (v := 4) hx hb d_O_bytesOf_27 (by decide) ?_
        obtain rfl := Option.some.inj hF
        exact k2 ls (lv_sub hl [] rfl)
      · have hF := (if_neg h9).symm.trans hF
        refine lv_iconst (v := 3) hx hb d_O_bytesOf_23 (by decide) ?_
        refine lv_goto hx hb d_O_bytesOf_24 (tgt := 28) (by decide) ?_
        obtain rfl := Option.some.inj hF
        exact k2 ls (lv_sub hl [] rfl)
    · have hF := (if_neg h9).symm.trans hF
      refine lv_iconst (v := 2) hx hb d_O_bytesOf_15 (by decide) ?_
      obtain rfl := Option.some.inj hF
      exact W.iret hx hb hr (fun t ht hW => ⟨_, rfl, rfl, ht⟩) (fun _ h => nomatch h) d_O_bytesOf_16
  · have hF := (if_neg h9).symm.trans hF
    refine lv_iconst (v := 1) hx hb d_O_bytesOf_7 (by decide) ?_
    obtain rfl := Option.some.inj hF
    exact W.iret hx hb hr (fun t ht hW => ⟨_, rfl, rfl, ht⟩) (fun _ h => nomatch h) d_O_bytesOf_8
def f_O_length (a0 : Int32) (a1 : Int32) : Option Int32 := Option.bind (f_O_bytesOf a0) (fun r1 => Option.bind (f_O_bytesOf a1) (fun r2 => some ((6 + r1) + r2)))
abbrev rm_O_length : Room := { frames := 1, cells := 0, slots := 0, locals := 20 }
set_option maxHeartbeats 4000000 in
set_option maxRecDepth 100000 in
theorem k_O_length (l : Launch) (a0 : Int32) (a1 : Int32) (r : Int32) (hF : f_O_length a0 a1 = some r) : Met l y_O_length (Cond.code y_O_length b_O_length 2 (some .int) :: wa) rm_O_length (pcs [.int a0, .int a1]) (vp_Si (fun z => z = r)) 0 0 (fun _ => False) := by
  refine Met.ofW (cc := b_O_length) (maxL := 2) (ret := (some .int)) (by decide) rfl ?_
  intro p e s m args below meth c s₁ B hml hv
  obtain ⟨rfl, hN⟩ := hv
  have hx := B.exec
  have hb := B.bytes
  have hr := B.returns
  have hts := atoms_spec (ws := Cond.code y_O_length b_O_length 2 (some .int) :: wa) B.pre
  have hw : ∀ w ∈ wa, w.before _ s = true := fun w h => hts w (List.mem_cons_of_mem _ h)
  have hown : s.vm.findClass R_O = some m.cls := findClass_of_methodNamed B.named
  have hlocks := B.notSynchronized
  have hl := lv_entry ([.int a0, .int a1]) (n := 2) (Nat.le_of_ble_eq_true rfl)
  rw [lg_entry_eq]
  generalize (lg_sl ([.int a0, .int a1]) ++ List.replicate (2 - (lg_sl ([.int a0, .int a1])).length) Slot.unset).toArray = ls at hl ⊢
  have hl : lv_has ls 2 [(0, .int a0), (1, .int a1)] := hl
  unfold f_O_length at hF
  refine lv_bipush (v := 6) hx hb d_O_length_0 (by decide) ?_
  refine lv_iload_n hx hb d_O_length_2 rfl (lv_at hl 0 rfl) ?_
  obtain ⟨r1, e_r1, hF⟩ := Option.bind_eq_some_iff.mp hF
  refine vp_callSi (va_runS (As := [.int a0]) (rest := [.int 6]) ⟨hx, hb, hml, hown, hts⟩ (k_O_bytesOf l a0 r1 e_r1) (va_cwS 1 hts (ga_S ww_198 ww_199 ww_16 ww_200) rfl rfl rfl (by decide +kernel) ⟨by decide, by decide⟩) (pcs_pre hN) rfl rfl hl.1 rfl (lv_room (Nat.le_of_ble_eq_true rfl)) d_O_length_3 ⟨Nat.zero_le _, Nat.zero_le _⟩).run (fun z9 hz9 => ?_)
  obtain rfl : r1 = z9 := hz9.symm
  refine lv_iadd hx hb d_O_length_6 ?_
  refine lv_iload_n hx hb d_O_length_7 rfl (lv_at hl 1 rfl) ?_
  obtain ⟨r2, e_r2, hF⟩ := Option.bind_eq_some_iff.mp hF
  refine vp_callSi (va_runS (As := [.int a1]) (rest := [.int (6 + r1)]) ⟨hx, hb, hml, hown, hts⟩ (k_O_bytesOf l a1 r2 e_r2) (va_cwS 1 hts (ga_S ww_198 ww_199 ww_16 ww_200) rfl rfl rfl (by decide +kernel) ⟨by decide, by decide⟩) (pcs_pre hN) rfl rfl hl.1 rfl (lv_room (Nat.le_of_ble_eq_true rfl)) d_O_length_8 ⟨Nat.zero_le _, Nat.zero_le _⟩).run (fun z9 hz9 => ?_)
  obtain rfl : r2 = z9 := hz9.symm
  refine lv_iadd hx hb d_O_length_11 ?_
  obtain rfl := Option.some.inj hF
  exact W.iret hx hb hr (fun t ht hW => ⟨_, rfl, rfl, ht⟩) (fun _ h => nomatch h) d_O_length_12
def f_O_numberByteAt (a0 : Int32) (a1 : Int32) : Option Int32 := if a1 = 0 then (some (2)) else (Option.bind (f_O_bytesOf a0) (fun r1 => Option.bind (if a1 = 1 then (some (r1) : Option (Int32)) else (some (((Int32.toUInt32 a0 >>> (Int32.toUInt32 (8 * ((r1 + 1) - a1)) &&& Int32.toUInt32 31)).toInt32) &&& 255))) (fun j2 => some (j2))))
abbrev rm_O_numberByteAt : Room := { frames := 1, cells := 0, slots := 0, locals := 20 }
set_option maxHeartbeats 4000000 in
set_option maxRecDepth 100000 in
theorem k_O_numberByteAt (l : Launch) (a0 : Int32) (a1 : Int32) (r : Int32) (hF : f_O_numberByteAt a0 a1 = some r) : Met l y_O_numberByteAt (Cond.code y_O_numberByteAt b_O_numberByteAt 3 (some .int) :: wa) rm_O_numberByteAt (pcs [.int a0, .int a1]) (vp_Si (fun z => z = r)) 0 0 (fun _ => False) := by
  refine Met.ofW (cc := b_O_numberByteAt) (maxL := 3) (ret := (some .int)) (by decide) rfl ?_
  intro p e s m args below meth c s₁ B hml hv
  obtain ⟨rfl, hN⟩ := hv
  have hx := B.exec
  have hb := B.bytes
  have hr := B.returns
  have hts := atoms_spec (ws := Cond.code y_O_numberByteAt b_O_numberByteAt 3 (some .int) :: wa) B.pre
  have hw : ∀ w ∈ wa, w.before _ s = true := fun w h => hts w (List.mem_cons_of_mem _ h)
  have hown : s.vm.findClass R_O = some m.cls := findClass_of_methodNamed B.named
  have hlocks := B.notSynchronized
  have hl := lv_entry ([.int a0, .int a1]) (n := 3) (Nat.le_of_ble_eq_true rfl)
  rw [lg_entry_eq]
  generalize (lg_sl ([.int a0, .int a1]) ++ List.replicate (3 - (lg_sl ([.int a0, .int a1])).length) Slot.unset).toArray = ls at hl ⊢
  have hl : lv_has ls 3 [(0, .int a0), (1, .int a1)] := hl
  unfold f_O_numberByteAt at hF
  refine lv_iload_n hx hb d_O_numberByteAt_0 rfl (lv_at hl 1 rfl) ?_
  refine lv_if_ne hx hb d_O_numberByteAt_1 (tgt := 6) (by decide) (fun h9 => ?_) (fun h9 => ?_)
  · have hF := (if_neg h9).symm.trans hF
    refine lv_iload_n hx hb d_O_numberByteAt_6 rfl (lv_at hl 0 rfl) ?_
    obtain ⟨r1, e_r1, hF⟩ := Option.bind_eq_some_iff.mp hF
    refine vp_callSi (va_runS (As := [.int a0]) (rest := []) ⟨hx, hb, hml, hown, hts⟩ (k_O_bytesOf l a0 r1 e_r1) (va_cwS 1 hts (ga_S ww_198 ww_199 ww_16 ww_200) rfl rfl rfl (by decide +kernel) ⟨by decide, by decide⟩) (pcs_pre hN) rfl rfl hl.1 rfl (lv_room (Nat.le_of_ble_eq_true rfl)) d_O_numberByteAt_7 ⟨Nat.zero_le _, Nat.zero_le _⟩).run (fun z9 hz9 => ?_)
    obtain rfl : r1 = z9 := hz9.symm
    refine lv_istore_n hx hb d_O_numberByteAt_10 rfl hl (by decide) (lv' := [(2, .int r1), (0, .int a0), (1, .int a1)]) rfl (fun ls hl => ?_)
    refine lv_iload_n hx hb d_O_numberByteAt_11 rfl (lv_at hl 2 rfl) ?_
    refine lv_iconst (v := 1) hx hb d_O_numberByteAt_12 (by decide) ?_
    obtain ⟨j2, q4, hF⟩ := Option.bind_eq_some_iff.mp hF
    have k3 : ∀ (ls : Array Slot), lv_has ls 3 [] → W p l e rm_O_numberByteAt s m ([Value.int a0, Value.int a1] : List Value).toArray below meth c s.heap [] 0 0 (MQ below (vp_Si (fun z => z = r)) ([Value.int a0, Value.int a1] : List Value).toArray s 0 0 (fun _ => False)) (F0 m 34 ls [.int j2]) := by
      intro ls hl
      obtain rfl := Option.some.inj hF
      exact W.iret hx hb hr (fun t ht hW => ⟨_, rfl, rfl, ht⟩) (fun _ h => nomatch h) d_O_numberByteAt_34
    clear hF
    have hF := q4
    refine lv_icmp_ne hx hb d_O_numberByteAt_13 (tgt := 20) (by decide) (fun h9 => ?_) (fun h9 => ?_)
    · have hF := (if_neg h9).symm.trans hF
      refine lv_iload_n hx hb d_O_numberByteAt_20 rfl (lv_at hl 1 rfl) ?_
      refine lv_bipush (v := 8) hx hb d_O_numberByteAt_21 (by decide) ?_
      refine lv_iload_n hx hb d_O_numberByteAt_23 rfl (lv_at hl 0 rfl) ?_
      refine lv_iconst (v := 1) hx hb d_O_numberByteAt_24 (by decide) ?_
      refine lv_iadd hx hb d_O_numberByteAt_25 ?_
      refine lv_iload_n hx hb d_O_numberByteAt_26 rfl (lv_at hl 2 rfl) ?_
      refine lv_isub hx hb d_O_numberByteAt_27 ?_
      refine lv_imul hx hb d_O_numberByteAt_28 ?_
      refine lv_iushr (v := (Int32.toUInt32 a0 >>> (Int32.toUInt32 (8 * ((r1 + 1) - a1)) &&& Int32.toUInt32 31)).toInt32) hx hb d_O_numberByteAt_29 rfl ?_
      refine lv_sipush (v := 255) hx hb d_O_numberByteAt_30 (by decide) ?_
      refine lv_iand hx hb d_O_numberByteAt_33 ?_
      obtain rfl := Option.some.inj hF
      exact k3 ls (lv_sub hl [] rfl)
    · have hF := (if_pos h9).symm.trans hF
      refine lv_iload_n hx hb d_O_numberByteAt_16 rfl (lv_at hl 0 rfl) ?_
      refine lv_goto hx hb d_O_numberByteAt_17 (tgt := 34) (by decide) ?_
      obtain rfl := Option.some.inj hF
      exact k3 ls (lv_sub hl [] rfl)
  · have hF := (if_pos h9).symm.trans hF
    refine lv_iconst (v := 2) hx hb d_O_numberByteAt_4 (by decide) ?_
    obtain rfl := Option.some.inj hF
    exact W.iret hx hb hr (fun t ht hW => ⟨_, rfl, rfl, ht⟩) (fun _ h => nomatch h) d_O_numberByteAt_5
def f_O_byteAt (a0 : Int32) (a1 : Int32) (a2 : Int32) : Option Int32 := if a2 = 0 then (some (48)) else (if a2 = 1 then (Option.bind (f_O_length a0 a1) (fun r9 => some (r9 - 2))) else (Option.bind (f_O_bytesOf a0) (fun r1 => Option.bind (some (4 + r1)) (fun v2 => Option.bind (if v2 ≤ a2 then (Option.bind (f_O_numberByteAt a1 (a2 - v2)) (fun r7 => some (r7)) : Option (Int32)) else (Option.bind (f_O_numberByteAt a0 (a2 - 2)) (fun r8 => some (r8)))) (fun j3 => some (j3))))))
abbrev rm_O_byteAt : Room := { frames := 2, cells := 0, slots := 0, locals := 42 }
set_option maxHeartbeats 4000000 in
set_option maxRecDepth 100000 in
theorem k_O_byteAt (l : Launch) (a0 : Int32) (a1 : Int32) (a2 : Int32) (r : Int32) (hF : f_O_byteAt a0 a1 a2 = some r) : Met l y_O_byteAt (Cond.code y_O_byteAt b_O_byteAt 4 (some .int) :: wa) rm_O_byteAt (pcs [.int a0, .int a1, .int a2]) (vp_Si (fun z => z = r)) 0 0 (fun _ => False) := by
  refine Met.ofW (cc := b_O_byteAt) (maxL := 4) (ret := (some .int)) (by decide) rfl ?_
  intro p e s m args below meth c s₁ B hml hv
  obtain ⟨rfl, hN⟩ := hv
  have hx := B.exec
  have hb := B.bytes
  have hr := B.returns
  have hts := atoms_spec (ws := Cond.code y_O_byteAt b_O_byteAt 4 (some .int) :: wa) B.pre
  have hw : ∀ w ∈ wa, w.before _ s = true := fun w h => hts w (List.mem_cons_of_mem _ h)
  have hown : s.vm.findClass R_O = some m.cls := findClass_of_methodNamed B.named
  have hlocks := B.notSynchronized
  have hl := lv_entry ([.int a0, .int a1, .int a2]) (n := 4) (Nat.le_of_ble_eq_true rfl)
  rw [lg_entry_eq]
  generalize (lg_sl ([.int a0, .int a1, .int a2]) ++ List.replicate (4 - (lg_sl ([.int a0, .int a1, .int a2])).length) Slot.unset).toArray = ls at hl ⊢
  have hl : lv_has ls 4 [(0, .int a0), (1, .int a1), (2, .int a2)] := hl
  unfold f_O_byteAt at hF
  refine lv_iload_n hx hb d_O_byteAt_0 rfl (lv_at hl 2 rfl) ?_
  refine lv_if_ne hx hb d_O_byteAt_1 (tgt := 7) (by decide) (fun h9 => ?_) (fun h9 => ?_)
  · have hF := (if_neg h9).symm.trans hF
    refine lv_iload_n hx hb d_O_byteAt_7 rfl (lv_at hl 2 rfl) ?_
    refine lv_iconst (v := 1) hx hb d_O_byteAt_8 (by decide) ?_
    refine lv_icmp_ne hx hb d_O_byteAt_9 (tgt := 20) (by decide) (fun h9 => ?_) (fun h9 => ?_)
    · have hF := (if_neg h9).symm.trans hF
      refine lv_iconst (v := 4) hx hb d_O_byteAt_20 (by decide) ?_
      refine lv_iload_n hx hb d_O_byteAt_21 rfl (lv_at hl 0 rfl) ?_
      obtain ⟨r1, e_r1, hF⟩ := Option.bind_eq_some_iff.mp hF
      refine vp_callSi (va_runS (As := [.int a0]) (rest := [.int 4]) ⟨hx, hb, hml, hown, hts⟩ (k_O_bytesOf l a0 r1 e_r1) (va_cwS 1 hts (ga_S ww_198 ww_199 ww_16 ww_200) rfl rfl rfl (by decide +kernel) ⟨by decide, by decide⟩) (pcs_pre hN) rfl rfl hl.1 rfl (lv_room (Nat.le_of_ble_eq_true rfl)) d_O_byteAt_22 ⟨Nat.zero_le _, Nat.zero_le _⟩).run (fun z9 hz9 => ?_)
      obtain rfl : r1 = z9 := hz9.symm
      refine lv_iadd hx hb d_O_byteAt_25 ?_
      obtain ⟨v2, e_v2, hF⟩ := Option.bind_eq_some_iff.mp hF
      refine nm_i (Option.some.inj e_v2) ?_
      refine lv_istore_n hx hb d_O_byteAt_26 rfl hl (by decide) (lv' := [(3, .int v2), (0, .int a0), (1, .int a1), (2, .int a2)]) rfl (fun ls hl => ?_)
      refine lv_iload_n hx hb d_O_byteAt_27 rfl (lv_at hl 3 rfl) ?_
      refine lv_iload_n hx hb d_O_byteAt_28 rfl (lv_at hl 0 rfl) ?_
      obtain ⟨j3, q5, hF⟩ := Option.bind_eq_some_iff.mp hF
      have k4 : ∀ (ls : Array Slot), lv_has ls 4 [] → W p l e rm_O_byteAt s m ([Value.int a0, Value.int a1, Value.int a2] : List Value).toArray below meth c s.heap [] 0 0 (MQ below (vp_Si (fun z => z = r)) ([Value.int a0, Value.int a1, Value.int a2] : List Value).toArray s 0 0 (fun _ => False)) (F0 m 49 ls [.int j3]) := by
        intro ls hl
        obtain rfl := Option.some.inj hF
        exact W.iret hx hb hr (fun t ht hW => ⟨_, rfl, rfl, ht⟩) (fun _ h => nomatch h) d_O_byteAt_49
      clear hF
      have hF := q5
      refine lv_icmp_ge hx hb d_O_byteAt_29 (tgt := 42) (by decide) (fun h9 => ?_) (fun h9 => ?_)
      · have hF := (if_pos h9).symm.trans hF
        refine lv_iload_n hx hb d_O_byteAt_42 rfl (lv_at hl 2 rfl) ?_
        refine lv_iload_n hx hb d_O_byteAt_43 rfl (lv_at hl 3 rfl) ?_
        refine lv_iload_n hx hb d_O_byteAt_44 rfl (lv_at hl 0 rfl) ?_
        refine lv_isub hx hb d_O_byteAt_45 ?_
        obtain ⟨r7, e_r7, hF⟩ := Option.bind_eq_some_iff.mp hF
        refine vp_callSi (va_runS (As := [.int a1, .int (a2 - v2)]) (rest := []) ⟨hx, hb, hml, hown, hts⟩ (k_O_numberByteAt l a1 (a2 - v2) r7 e_r7) (va_cwS 2 hts (ga_S ww_207 ww_208 ww_16 ww_209) rfl rfl rfl (by decide +kernel) ⟨by decide, by decide⟩) (pcs_pre hN) rfl rfl hl.1 rfl (lv_room (Nat.le_of_ble_eq_true rfl)) d_O_byteAt_46 ⟨Nat.zero_le _, Nat.zero_le _⟩).run (fun z9 hz9 => ?_)
        obtain rfl : r7 = z9 := hz9.symm
        obtain rfl := Option.some.inj hF
        exact k4 ls (lv_sub hl [] rfl)
      · have hF := (if_neg h9).symm.trans hF
        refine lv_iload_n hx hb d_O_byteAt_32 rfl (lv_at hl 1 rfl) ?_
        refine lv_iload_n hx hb d_O_byteAt_33 rfl (lv_at hl 3 rfl) ?_
        refine lv_iconst (v := 2) hx hb d_O_byteAt_34 (by decide) ?_
        refine lv_isub hx hb d_O_byteAt_35 ?_
        obtain ⟨r8, e_r8, hF⟩ := Option.bind_eq_some_iff.mp hF
        refine vp_callSi (va_runS (As := [.int a0, .int (a2 - 2)]) (rest := []) ⟨hx, hb, hml, hown, hts⟩ (k_O_numberByteAt l a0 (a2 - 2) r8 e_r8) (va_cwS 2 hts (ga_S ww_207 ww_208 ww_16 ww_209) rfl rfl rfl (by decide +kernel) ⟨by decide, by decide⟩) (pcs_pre hN) rfl rfl hl.1 rfl (lv_room (Nat.le_of_ble_eq_true rfl)) d_O_byteAt_36 ⟨Nat.zero_le _, Nat.zero_le _⟩).run (fun z9 hz9 => ?_)
        obtain rfl : r8 = z9 := hz9.symm
        refine lv_goto hx hb d_O_byteAt_39 (tgt := 49) (by decide) ?_
        obtain rfl := Option.some.inj hF
        exact k4 ls (lv_sub hl [] rfl)
    · have hF := (if_pos h9).symm.trans hF
      refine lv_iload_n hx hb d_O_byteAt_12 rfl (lv_at hl 0 rfl) ?_
      refine lv_iload_n hx hb d_O_byteAt_13 rfl (lv_at hl 1 rfl) ?_
      obtain ⟨r9, e_r9, hF⟩ := Option.bind_eq_some_iff.mp hF
      refine vp_callSi (va_runS (As := [.int a0, .int a1]) (rest := []) ⟨hx, hb, hml, hown, hts⟩ (k_O_length l a0 a1 r9 e_r9) (va_cwS 2 hts (ga_S ww_206 ww_196 ww_16 ww_197) rfl rfl rfl (by decide +kernel) ⟨by decide, by decide⟩) (pcs_pre hN) rfl rfl hl.1 rfl (lv_room (Nat.le_of_ble_eq_true rfl)) d_O_byteAt_14 ⟨Nat.zero_le _, Nat.zero_le _⟩).run (fun z9 hz9 => ?_)
      obtain rfl : r9 = z9 := hz9.symm
      refine lv_iconst (v := 2) hx hb d_O_byteAt_17 (by decide) ?_
      refine lv_isub hx hb d_O_byteAt_18 ?_
      obtain rfl := Option.some.inj hF
      exact W.iret hx hb hr (fun t ht hW => ⟨_, rfl, rfl, ht⟩) (fun _ h => nomatch h) d_O_byteAt_19
  · have hF := (if_pos h9).symm.trans hF
    refine lv_bipush (v := 48) hx hb d_O_byteAt_4 (by decide) ?_
    obtain rfl := Option.some.inj hF
    exact W.iret hx hb hr (fun t ht hW => ⟨_, rfl, rfl, ht⟩) (fun _ h => nomatch h) d_O_byteAt_6
end
section
def f_M_mod (a0 : Int64) (a1 : Int64) : Option Int64 := if a1 = 0 then none else (Option.bind (some (a0 - a0 / a1 * a1)) (fun v2 => Option.bind (if 0 ≤ (lg_cmp v2 0) then (some (v2) : Option (Int64)) else (some (v2 + a1))) (fun j3 => some (j3))))
abbrev rm_M_mod : Room := { frames := 0, cells := 0, slots := 0, locals := 0 }
set_option maxHeartbeats 4000000 in
set_option maxRecDepth 100000 in
theorem k_M_mod (l : Launch) (a0 : Int64) (a1 : Int64) (r : Int64) (hF : f_M_mod a0 a1 = some r) : Met l y_M_mod (Cond.code y_M_mod b_M_mod 6 (some .long) :: wa) rm_M_mod (pcs [.long a0, .long a1]) (vp_Sl (fun z => z = r)) 0 0 (fun _ => False) := by
  refine Met.ofW (cc := b_M_mod) (maxL := 6) (ret := (some .long)) (by decide) rfl ?_
  intro p e s m args below meth c s₁ B hml hv
  obtain ⟨rfl, hN⟩ := hv
  have hx := B.exec
  have hb := B.bytes
  have hr := B.returns
  have hts := atoms_spec (ws := Cond.code y_M_mod b_M_mod 6 (some .long) :: wa) B.pre
  have hw : ∀ w ∈ wa, w.before _ s = true := fun w h => hts w (List.mem_cons_of_mem _ h)
  have hown : s.vm.findClass R_M = some m.cls := findClass_of_methodNamed B.named
  have hlocks := B.notSynchronized
  have hl := lv_entry ([.long a0, .long a1]) (n := 6) (Nat.le_of_ble_eq_true rfl)
  rw [lg_entry_eq]
  generalize (lg_sl ([.long a0, .long a1]) ++ List.replicate (6 - (lg_sl ([.long a0, .long a1])).length) Slot.unset).toArray = ls at hl ⊢
  have hl : lv_has ls 6 [(0, .long a0), (2, .long a1)] := hl
  unfold f_M_mod at hF
  refine lv_lload_n hx hb d_M_mod_0 rfl (lv_at hl 0 rfl) ?_
  refine lv_lload_n hx hb d_M_mod_1 rfl (lv_at hl 1 rfl) ?_
  by_cases h1 : a1 = 0
  · rw [if_pos h1] at hF; cases hF
  have hF := (if_neg h1).symm.trans hF
  refine lv_lrem hx hb d_M_mod_2 h1 ?_
  obtain ⟨v2, e_v2, hF⟩ := Option.bind_eq_some_iff.mp hF
  refine nm_l (Option.some.inj e_v2) ?_
  refine lv_lstore hx hb d_M_mod_3 hl (by decide) (lv' := [(4, .long v2), (0, .long a0), (2, .long a1)]) rfl (fun ls hl => ?_)
  refine lv_lload hx hb d_M_mod_5 (lv_at hl 0 rfl) ?_
  refine lv_lconst (v := 0) hx hb d_M_mod_7 (by decide) ?_
  refine W.lcmp hx hb d_M_mod_8 ?_
  obtain ⟨j3, q5, hF⟩ := Option.bind_eq_some_iff.mp hF
  have k4 : ∀ (ls : Array Slot), lv_has ls 6 [] → W p l e rm_M_mod s m ([Value.long a0, Value.long a1] : List Value).toArray below meth c s.heap [] 0 0 (MQ below (vp_Sl (fun z => z = r)) ([Value.long a0, Value.long a1] : List Value).toArray s 0 0 (fun _ => False)) (F0 m 21 ls [.long j3]) := by
    intro ls hl
    obtain rfl := Option.some.inj hF
    exact W.lret hx hb hr (fun t ht hW => ⟨_, rfl, rfl, ht⟩) (fun _ h => nomatch h) d_M_mod_21
  clear hF
  have hF := q5
  refine lv_if_ge hx hb d_M_mod_9 (tgt := 19) (by decide) (fun h9 => ?_) (fun h9 => ?_)
  · have hF := (if_pos h9).symm.trans hF
    refine lv_lload hx hb d_M_mod_19 (lv_at hl 0 rfl) ?_
    obtain rfl := Option.some.inj hF
    exact k4 ls (lv_sub hl [] rfl)
  · have hF := (if_neg h9).symm.trans hF
    refine lv_lload hx hb d_M_mod_12 (lv_at hl 0 rfl) ?_
    refine lv_lload_n hx hb d_M_mod_14 rfl (lv_at hl 2 rfl) ?_
    refine lv_ladd hx hb d_M_mod_15 ?_
    refine lv_goto hx hb d_M_mod_16 (tgt := 21) (by decide) ?_
    obtain rfl := Option.some.inj hF
    exact k4 ls (lv_sub hl [] rfl)
def f_M_power_14 (a2 : Int64) : Nat → Int64 → Int64 → Int64 → Option (Int64 × Int64 × Int64)
  | 0, _, _, _ => none
  | n + 1, u2, u3, u4 => if (lg_cmp u2 0) ≤ 0 then (some (u2, u3, u4)) else (Option.bind (if (lg_cmp (u2 - u2 / 2 * 2) 1) = 0 then (if a2 = 0 then none else (some ((u4 * u3) - (u4 * u3) / a2 * a2)) : Option (Int64)) else (some (u4))) (fun j10 => if a2 = 0 then none else (Option.bind (some ((u3 * u3) - (u3 * u3) / a2 * a2)) (fun v15 => Option.bind (some (u2 / 2)) (fun v16 => f_M_power_14 a2 n v16 v15 j10)))))
def f_M_power (a0 : Int64) (a1 : Int64) (a2 : Int64) : Option Int64 := Option.bind (f_M_mod a0 a2) (fun r1 => Option.bind (f_M_power_14 a2 64 a1 r1 1) (fun t19 => match t19 with | (o6, o7, o8) => (some (o8))))
abbrev rm_M_power : Room := { frames := 1, cells := 0, slots := 0, locals := 25 }
set_option maxHeartbeats 4000000 in
set_option maxRecDepth 100000 in
theorem k_M_power (l : Launch) (a0 : Int64) (a1 : Int64) (a2 : Int64) (r : Int64) (hF : f_M_power a0 a1 a2 = some r) : Met l y_M_power (Cond.code y_M_power b_M_power 12 (some .long) :: wa) rm_M_power (pcs [.long a0, .long a1, .long a2]) (vp_Sl (fun z => z = r)) 0 0 (fun _ => False) := by
  refine Met.ofW (cc := b_M_power) (maxL := 12) (ret := (some .long)) (by decide) rfl ?_
  intro p e s m args below meth c s₁ B hml hv
  obtain ⟨rfl, hN⟩ := hv
  have hx := B.exec
  have hb := B.bytes
  have hr := B.returns
  have hts := atoms_spec (ws := Cond.code y_M_power b_M_power 12 (some .long) :: wa) B.pre
  have hw : ∀ w ∈ wa, w.before _ s = true := fun w h => hts w (List.mem_cons_of_mem _ h)
  have hown : s.vm.findClass R_M = some m.cls := findClass_of_methodNamed B.named
  have hlocks := B.notSynchronized
  have hl := lv_entry ([.long a0, .long a1, .long a2]) (n := 12) (Nat.le_of_ble_eq_true rfl)
  rw [lg_entry_eq]
  generalize (lg_sl ([.long a0, .long a1, .long a2]) ++ List.replicate (12 - (lg_sl ([.long a0, .long a1, .long a2])).length) Slot.unset).toArray = ls at hl ⊢
  have hl : lv_has ls 12 [(0, .long a0), (2, .long a1), (4, .long a2)] := hl
  unfold f_M_power at hF
  refine lv_lconst (v := 1) hx hb d_M_power_0 (by decide) ?_
  refine lv_lstore hx hb d_M_power_1 hl (by decide) (lv' := [(6, .long 1), (0, .long a0), (2, .long a1), (4, .long a2)]) rfl (fun ls hl => ?_)
  refine lv_lload_n hx hb d_M_power_3 rfl (lv_at hl 1 rfl) ?_
  refine lv_lload hx hb d_M_power_4 (lv_at hl 3 rfl) ?_
  obtain ⟨r1, e_r1, hF⟩ := Option.bind_eq_some_iff.mp hF
  refine vp_callSl (va_runS (As := [.long a0, .long a2]) (rest := []) ⟨hx, hb, hml, hown, hts⟩ (k_M_mod l a0 a2 r1 e_r1) (va_cwS 2 hts (ga_S ww_609 ww_610 ww_4 ww_611) rfl rfl rfl (by decide +kernel) ⟨by decide, by decide⟩) (pcs_pre hN) rfl rfl hl.1 rfl (lv_room (Nat.le_of_ble_eq_true rfl)) d_M_power_6 ⟨Nat.zero_le _, Nat.zero_le _⟩).run (fun z9 hz9 => ?_)
  obtain rfl : r1 = z9 := hz9.symm
  refine lv_lstore hx hb d_M_power_9 hl (by decide) (lv' := [(8, .long r1), (6, .long 1), (0, .long a0), (2, .long a1), (4, .long a2)]) rfl (fun ls hl => ?_)
  refine lv_lload_n hx hb d_M_power_11 rfl (lv_at hl 3 rfl) ?_
  refine lv_lstore hx hb d_M_power_12 hl (by decide) (lv' := [(10, .long a1), (8, .long r1), (6, .long 1), (0, .long a0), (2, .long a1), (4, .long a2)]) rfl (fun ls hl => ?_)
  obtain ⟨⟨o6, o7, o8⟩, q18, hF⟩ := Option.bind_eq_some_iff.mp hF
  have k9 : ∀ (ls : Array Slot), lv_has ls 12 [(10, .long o6), (8, .long o7), (6, .long o8), (4, .long a2)] → W p l e rm_M_power s m ([Value.long a0, Value.long a1, Value.long a2] : List Value).toArray below meth c s.heap [] 0 0 (MQ below (vp_Sl (fun z => z = r)) ([Value.long a0, Value.long a1, Value.long a2] : List Value).toArray s 0 0 (fun _ => False)) (F0 m 68 ls []) := by
    intro ls hl
    refine lv_lload hx hb d_M_power_68 (lv_at hl 2 rfl) ?_
    obtain rfl := Option.some.inj hF
    exact W.lret hx hb hr (fun t ht hW => ⟨_, rfl, rfl, ht⟩) (fun _ h => nomatch h) d_M_power_70
  clear hF
  have k5 : ∀ (n : Nat) (u2 : Int64) (u3 : Int64) (u4 : Int64) (ls : Array Slot), lv_has ls 12 [(10, .long u2), (8, .long u3), (6, .long u4), (4, .long a2)] → f_M_power_14 a2 n u2 u3 u4 = some (o6, o7, o8) → W p l e rm_M_power s m ([Value.long a0, Value.long a1, Value.long a2] : List Value).toArray below meth c s.heap [] 0 0 (MQ below (vp_Sl (fun z => z = r)) ([Value.long a0, Value.long a1, Value.long a2] : List Value).toArray s 0 0 (fun _ => False)) (F0 m 14 ls []) := by
    intro n
    induction n with
    | zero => intro u2 u3 u4 ls hl hF; cases hF
    | succ n ih =>
      intro u2 u3 u4 ls hl hF
      rw [f_M_power_14] at hF
      refine lv_lload hx hb d_M_power_14 (lv_at hl 0 rfl) ?_
      refine lv_lconst (v := 0) hx hb d_M_power_16 (by decide) ?_
      refine W.lcmp hx hb d_M_power_17 ?_
      refine lv_if_le hx hb d_M_power_18 (tgt := 68) (by decide) (fun h9 => ?_) (fun h9 => ?_)
      · have hF := (if_pos h9).symm.trans hF
        cases Option.some.inj hF
        exact k9 ls (lv_sub hl [0, 1, 2, 3] rfl)
      · have hF := (if_neg h9).symm.trans hF
        refine lv_lload hx hb d_M_power_21 (lv_at hl 0 rfl) ?_
        refine lv_ldc2 (v := 2) hx hb hown (hw _ ww_593) d_M_power_23 ?_
        refine lv_lrem hx hb d_M_power_26 (by decide) ?_
        refine lv_lconst (v := 1) hx hb d_M_power_27 (by decide) ?_
        refine W.lcmp hx hb d_M_power_28 ?_
        obtain ⟨j10, q12, hF⟩ := Option.bind_eq_some_iff.mp hF
        have k11 : ∀ (ls : Array Slot), lv_has ls 12 [(10, .long u2), (8, .long u3), (4, .long a2)] → W p l e rm_M_power s m ([Value.long a0, Value.long a1, Value.long a2] : List Value).toArray below meth c s.heap [] 0 0 (MQ below (vp_Sl (fun z => z = r)) ([Value.long a0, Value.long a1, Value.long a2] : List Value).toArray s 0 0 (fun _ => False)) (F0 m 45 ls [.long j10]) := by
          intro ls hl
          refine lv_lstore hx hb d_M_power_45 hl (by decide) (lv' := [(6, .long j10), (10, .long u2), (8, .long u3), (4, .long a2)]) rfl (fun ls hl => ?_)
          refine lv_lload hx hb d_M_power_47 (lv_at hl 2 rfl) ?_
          refine lv_lload hx hb d_M_power_49 (lv_at hl 2 rfl) ?_
          refine lv_lmul hx hb d_M_power_51 ?_
          refine lv_lload hx hb d_M_power_52 (lv_at hl 3 rfl) ?_
          by_cases h14 : a2 = 0
          · rw [if_pos h14] at hF; cases hF
          have hF := (if_neg h14).symm.trans hF
          refine lv_lrem hx hb d_M_power_54 h14 ?_
          obtain ⟨v15, e_v15, hF⟩ := Option.bind_eq_some_iff.mp hF
          refine nm_l (Option.some.inj e_v15) ?_
          refine lv_lstore hx hb d_M_power_55 hl (by decide) (lv' := [(8, .long v15), (6, .long j10), (10, .long u2), (4, .long a2)]) rfl (fun ls hl => ?_)
          refine lv_lload hx hb d_M_power_57 (lv_at hl 2 rfl) ?_
          refine lv_ldc2 (v := 2) hx hb hown (hw _ ww_593) d_M_power_59 ?_
          refine lv_ldiv hx hb d_M_power_62 (by decide) ?_
          obtain ⟨v16, e_v16, hF⟩ := Option.bind_eq_some_iff.mp hF
          refine nm_l (Option.some.inj e_v16) ?_
          refine lv_lstore hx hb d_M_power_63 hl (by decide) (lv' := [(10, .long v16), (8, .long v15), (6, .long j10), (4, .long a2)]) rfl (fun ls hl => ?_)
          refine lv_goto hx hb d_M_power_65 (tgt := 14) (by decide) ?_
          exact ih v16 v15 j10 ls (lv_sub hl [0, 1, 2, 3] rfl) hF
        clear hF
        have hF := q12
        refine lv_if_ne hx hb d_M_power_29 (tgt := 43) (by decide) (fun h9 => ?_) (fun h9 => ?_)
        · have hF := (if_neg h9).symm.trans hF
          refine lv_lload hx hb d_M_power_43 (lv_at hl 2 rfl) ?_
          obtain rfl := Option.some.inj hF
          exact k11 ls (lv_sub hl [0, 1, 3] rfl)
        · have hF := (if_pos h9).symm.trans hF
          refine lv_lload hx hb d_M_power_32 (lv_at hl 2 rfl) ?_
          refine lv_lload hx hb d_M_power_34 (lv_at hl 1 rfl) ?_
          refine lv_lmul hx hb d_M_power_36 ?_
          refine lv_lload hx hb d_M_power_37 (lv_at hl 3 rfl) ?_
          by_cases h17 : a2 = 0
          · rw [if_pos h17] at hF; cases hF
          have hF := (if_neg h17).symm.trans hF
          refine lv_lrem hx hb d_M_power_39 h17 ?_
          refine lv_goto hx hb d_M_power_40 (tgt := 45) (by decide) ?_
          obtain rfl := Option.some.inj hF
          exact k11 ls (lv_sub hl [0, 1, 3] rfl)
  exact k5 64 a1 r1 1 ls (lv_sub hl [0, 1, 2, 5] rfl) q18
def f_M_quotient (a0 : Int64) (a1 : Int64) (a2 : Int64) : Option Int64 := Option.bind (f_M_mod a0 a2) (fun r1 => Option.bind (f_M_power a1 (a2 - 2) a2) (fun r2 => if a2 = 0 then none else (some ((r1 * r2) - (r1 * r2) / a2 * a2))))
abbrev rm_M_quotient : Room := { frames := 2, cells := 0, slots := 0, locals := 56 }
set_option maxHeartbeats 4000000 in
set_option maxRecDepth 100000 in
theorem k_M_quotient (l : Launch) (a0 : Int64) (a1 : Int64) (a2 : Int64) (r : Int64) (hF : f_M_quotient a0 a1 a2 = some r) : Met l y_M_quotient (Cond.code y_M_quotient b_M_quotient 6 (some .long) :: wa) rm_M_quotient (pcs [.long a0, .long a1, .long a2]) (vp_Sl (fun z => z = r)) 0 0 (fun _ => False) := by
  refine Met.ofW (cc := b_M_quotient) (maxL := 6) (ret := (some .long)) (by decide) rfl ?_
  intro p e s m args below meth c s₁ B hml hv
  obtain ⟨rfl, hN⟩ := hv
  have hx := B.exec
  have hb := B.bytes
  have hr := B.returns
  have hts := atoms_spec (ws := Cond.code y_M_quotient b_M_quotient 6 (some .long) :: wa) B.pre
  have hw : ∀ w ∈ wa, w.before _ s = true := fun w h => hts w (List.mem_cons_of_mem _ h)
  have hown : s.vm.findClass R_M = some m.cls := findClass_of_methodNamed B.named
  have hlocks := B.notSynchronized
  have hl := lv_entry ([.long a0, .long a1, .long a2]) (n := 6) (Nat.le_of_ble_eq_true rfl)
  rw [lg_entry_eq]
  generalize (lg_sl ([.long a0, .long a1, .long a2]) ++ List.replicate (6 - (lg_sl ([.long a0, .long a1, .long a2])).length) Slot.unset).toArray = ls at hl ⊢
  have hl : lv_has ls 6 [(0, .long a0), (2, .long a1), (4, .long a2)] := hl
  unfold f_M_quotient at hF
  refine lv_lload_n hx hb d_M_quotient_0 rfl (lv_at hl 0 rfl) ?_
  refine lv_lload hx hb d_M_quotient_1 (lv_at hl 2 rfl) ?_
  obtain ⟨r1, e_r1, hF⟩ := Option.bind_eq_some_iff.mp hF
  refine vp_callSl (va_runS (As := [.long a0, .long a2]) (rest := []) ⟨hx, hb, hml, hown, hts⟩ (k_M_mod l a0 a2 r1 e_r1) (va_cwS 2 hts (ga_S ww_609 ww_610 ww_4 ww_611) rfl rfl rfl (by decide +kernel) ⟨by decide, by decide⟩) (pcs_pre hN) rfl rfl hl.1 rfl (lv_room (Nat.le_of_ble_eq_true rfl)) d_M_quotient_3 ⟨Nat.zero_le _, Nat.zero_le _⟩).run (fun z9 hz9 => ?_)
  obtain rfl : r1 = z9 := hz9.symm
  refine lv_lload_n hx hb d_M_quotient_6 rfl (lv_at hl 1 rfl) ?_
  refine lv_lload hx hb d_M_quotient_7 (lv_at hl 2 rfl) ?_
  refine lv_ldc2 (v := 2) hx hb hown (hw _ ww_593) d_M_quotient_9 ?_
  refine lv_lsub hx hb d_M_quotient_12 ?_
  refine lv_lload hx hb d_M_quotient_13 (lv_at hl 2 rfl) ?_
  obtain ⟨r2, e_r2, hF⟩ := Option.bind_eq_some_iff.mp hF
  refine vp_callSl (va_runS (As := [.long a1, .long (a2 - 2), .long a2]) (rest := [.long r1]) ⟨hx, hb, hml, hown, hts⟩ (k_M_power l a1 (a2 - 2) a2 r2 e_r2) (va_cwS 3 hts (ga_S ww_612 ww_613 ww_4 ww_614) rfl rfl rfl (by decide +kernel) ⟨by decide, by decide⟩) (pcs_pre hN) rfl rfl hl.1 rfl (lv_room (Nat.le_of_ble_eq_true rfl)) d_M_quotient_15 ⟨Nat.zero_le _, Nat.zero_le _⟩).run (fun z9 hz9 => ?_)
  obtain rfl : r2 = z9 := hz9.symm
  refine lv_lmul hx hb d_M_quotient_18 ?_
  refine lv_lload hx hb d_M_quotient_19 (lv_at hl 2 rfl) ?_
  by_cases h3 : a2 = 0
  · rw [if_pos h3] at hF; cases hF
  have hF := (if_neg h3).symm.trans hF
  refine lv_lrem hx hb d_M_quotient_21 h3 ?_
  obtain rfl := Option.some.inj hF
  exact W.lret hx hb hr (fun t ht hW => ⟨_, rfl, rfl, ht⟩) (fun _ h => nomatch h) d_M_quotient_22
def f_M_h (a0 : Int64) (a1 : Int64) : Option Int64 := Option.bind (some (((a0 ^^^ 5903417616886299669) * 6364136223846793005) + a1)) (fun v1 => Option.bind (some (v1 ^^^ ((Int64.toUInt64 v1 >>> ((Int32.toInt64 31).toUInt64 &&& Int64.toUInt64 63)).toInt64))) (fun v2 => Option.bind (some (v2 * 2685821657736338717)) (fun v3 => some (v3 ^^^ ((Int64.toUInt64 v3 >>> ((Int32.toInt64 28).toUInt64 &&& Int64.toUInt64 63)).toInt64)))))
abbrev rm_M_h : Room := { frames := 0, cells := 0, slots := 0, locals := 0 }
set_option maxHeartbeats 4000000 in
set_option maxRecDepth 100000 in
theorem k_M_h (l : Launch) (a0 : Int64) (a1 : Int64) (r : Int64) (hF : f_M_h a0 a1 = some r) : Met l y_M_h (Cond.code y_M_h b_M_h 6 (some .long) :: wa) rm_M_h (pcs [.long a0, .long a1]) (vp_Sl (fun z => z = r)) 0 0 (fun _ => False) := by
  refine Met.ofW (cc := b_M_h) (maxL := 6) (ret := (some .long)) (by decide) rfl ?_
  intro p e s m args below meth c s₁ B hml hv
  obtain ⟨rfl, hN⟩ := hv
  have hx := B.exec
  have hb := B.bytes
  have hr := B.returns
  have hts := atoms_spec (ws := Cond.code y_M_h b_M_h 6 (some .long) :: wa) B.pre
  have hw : ∀ w ∈ wa, w.before _ s = true := fun w h => hts w (List.mem_cons_of_mem _ h)
  have hown : s.vm.findClass R_M = some m.cls := findClass_of_methodNamed B.named
  have hlocks := B.notSynchronized
  have hl := lv_entry ([.long a0, .long a1]) (n := 6) (Nat.le_of_ble_eq_true rfl)
  rw [lg_entry_eq]
  generalize (lg_sl ([.long a0, .long a1]) ++ List.replicate (6 - (lg_sl ([.long a0, .long a1])).length) Slot.unset).toArray = ls at hl ⊢
  have hl : lv_has ls 6 [(0, .long a0), (2, .long a1)] := hl
  unfold f_M_h at hF
  refine lv_lload_n hx hb d_M_h_0 rfl (lv_at hl 0 rfl) ?_
  refine lv_ldc2 (v := 5903417616886299669) hx hb hown (hw _ ww_677) d_M_h_1 ?_
  refine lv_lxor hx hb d_M_h_4 ?_
  refine lv_ldc2 (v := 6364136223846793005) hx hb hown (hw _ ww_678) d_M_h_5 ?_
  refine lv_lmul hx hb d_M_h_8 ?_
  refine lv_lload_n hx hb d_M_h_9 rfl (lv_at hl 1 rfl) ?_
  refine lv_ladd hx hb d_M_h_10 ?_
  obtain ⟨v1, e_v1, hF⟩ := Option.bind_eq_some_iff.mp hF
  refine nm_l (Option.some.inj e_v1) ?_
  refine lv_lstore hx hb d_M_h_11 hl (by decide) (lv' := [(4, .long v1), (0, .long a0), (2, .long a1)]) rfl (fun ls hl => ?_)
  refine lv_lload hx hb d_M_h_13 (lv_at hl 0 rfl) ?_
  refine lv_lload hx hb d_M_h_15 (lv_at hl 0 rfl) ?_
  refine lv_bipush (v := 31) hx hb d_M_h_17 (by decide) ?_
  refine lv_lushr (v := (Int64.toUInt64 v1 >>> ((Int32.toInt64 31).toUInt64 &&& Int64.toUInt64 63)).toInt64) hx hb d_M_h_19 rfl ?_
  refine lv_lxor hx hb d_M_h_20 ?_
  obtain ⟨v2, e_v2, hF⟩ := Option.bind_eq_some_iff.mp hF
  refine nm_l (Option.some.inj e_v2) ?_
  refine lv_lstore hx hb d_M_h_21 hl (by decide) (lv' := [(4, .long v2), (0, .long a0), (2, .long a1)]) rfl (fun ls hl => ?_)
  refine lv_lload hx hb d_M_h_23 (lv_at hl 0 rfl) ?_
  refine lv_ldc2 (v := 2685821657736338717) hx hb hown (hw _ ww_679) d_M_h_25 ?_
  refine lv_lmul hx hb d_M_h_28 ?_
  obtain ⟨v3, e_v3, hF⟩ := Option.bind_eq_some_iff.mp hF
  refine nm_l (Option.some.inj e_v3) ?_
  refine lv_lstore hx hb d_M_h_29 hl (by decide) (lv' := [(4, .long v3), (0, .long a0), (2, .long a1)]) rfl (fun ls hl => ?_)
  refine lv_lload hx hb d_M_h_31 (lv_at hl 0 rfl) ?_
  refine lv_lload hx hb d_M_h_33 (lv_at hl 0 rfl) ?_
  refine lv_bipush (v := 28) hx hb d_M_h_35 (by decide) ?_
  refine lv_lushr (v := (Int64.toUInt64 v3 >>> ((Int32.toInt64 28).toUInt64 &&& Int64.toUInt64 63)).toInt64) hx hb d_M_h_37 rfl ?_
  refine lv_lxor hx hb d_M_h_38 ?_
  obtain rfl := Option.some.inj hF
  exact W.lret hx hb hr (fun t ht hW => ⟨_, rfl, rfl, ht⟩) (fun _ h => nomatch h) d_M_h_39
def f_M_digest (a0 : Int64) : Option Int64 := Option.bind (f_M_h a0 17) (fun r1 => some ((Int64.toUInt64 r1 >>> ((Int32.toInt64 34).toUInt64 &&& Int64.toUInt64 63)).toInt64))
abbrev rm_M_digest : Room := { frames := 1, cells := 0, slots := 0, locals := 25 }
set_option maxHeartbeats 4000000 in
set_option maxRecDepth 100000 in
theorem k_M_digest (l : Launch) (a0 : Int64) (r : Int64) (hF : f_M_digest a0 = some r) : Met l y_M_digest (Cond.code y_M_digest b_M_digest 2 (some .long) :: wa) rm_M_digest (pcs [.long a0]) (vp_Sl (fun z => z = r)) 0 0 (fun _ => False) := by
  refine Met.ofW (cc := b_M_digest) (maxL := 2) (ret := (some .long)) (by decide) rfl ?_
  intro p e s m args below meth c s₁ B hml hv
  obtain ⟨rfl, hN⟩ := hv
  have hx := B.exec
  have hb := B.bytes
  have hr := B.returns
  have hts := atoms_spec (ws := Cond.code y_M_digest b_M_digest 2 (some .long) :: wa) B.pre
  have hw : ∀ w ∈ wa, w.before _ s = true := fun w h => hts w (List.mem_cons_of_mem _ h)
  have hown : s.vm.findClass R_M = some m.cls := findClass_of_methodNamed B.named
  have hlocks := B.notSynchronized
  have hl := lv_entry ([.long a0]) (n := 2) (Nat.le_of_ble_eq_true rfl)
  rw [lg_entry_eq]
  generalize (lg_sl ([.long a0]) ++ List.replicate (2 - (lg_sl ([.long a0])).length) Slot.unset).toArray = ls at hl ⊢
  have hl : lv_has ls 2 [(0, .long a0)] := hl
  unfold f_M_digest at hF
  refine lv_lload_n hx hb d_M_digest_0 rfl (lv_at hl 0 rfl) ?_
  refine lv_ldc2 (v := 17) hx hb hown (hw _ ww_673) d_M_digest_1 ?_
  obtain ⟨r1, e_r1, hF⟩ := Option.bind_eq_some_iff.mp hF
  refine vp_callSl (va_runS (As := [.long a0, .long 17]) (rest := []) ⟨hx, hb, hml, hown, hts⟩ (k_M_h l a0 17 r1 e_r1) (va_cwS 2 hts (ga_S ww_674 ww_675 ww_4 ww_676) rfl rfl rfl (by decide +kernel) ⟨by decide, by decide⟩) (pcs_pre hN) rfl rfl hl.1 rfl (lv_room (Nat.le_of_ble_eq_true rfl)) d_M_digest_4 ⟨Nat.zero_le _, Nat.zero_le _⟩).run (fun z9 hz9 => ?_)
  obtain rfl : r1 = z9 := hz9.symm
  refine lv_bipush (v := 34) hx hb d_M_digest_7 (by decide) ?_
  refine lv_lushr (v := (Int64.toUInt64 r1 >>> ((Int32.toInt64 34).toUInt64 &&& Int64.toUInt64 63)).toInt64) hx hb d_M_digest_9 rfl ?_
  obtain rfl := Option.some.inj hF
  exact W.lret hx hb hr (fun t ht hW => ⟨_, rfl, rfl, ht⟩) (fun _ h => nomatch h) d_M_digest_10
def f_M_xOf (a0 : Int64) : Option Int64 := some (a0 / 2147483648)
abbrev rm_M_xOf : Room := { frames := 0, cells := 0, slots := 0, locals := 0 }
set_option maxHeartbeats 4000000 in
set_option maxRecDepth 100000 in
theorem k_M_xOf (l : Launch) (a0 : Int64) (r : Int64) (hF : f_M_xOf a0 = some r) : Met l y_M_xOf (Cond.code y_M_xOf b_M_xOf 2 (some .long) :: wa) rm_M_xOf (pcs [.long a0]) (vp_Sl (fun z => z = r)) 0 0 (fun _ => False) := by
  refine Met.ofW (cc := b_M_xOf) (maxL := 2) (ret := (some .long)) (by decide) rfl ?_
  intro p e s m args below meth c s₁ B hml hv
  obtain ⟨rfl, hN⟩ := hv
  have hx := B.exec
  have hb := B.bytes
  have hr := B.returns
  have hts := atoms_spec (ws := Cond.code y_M_xOf b_M_xOf 2 (some .long) :: wa) B.pre
  have hw : ∀ w ∈ wa, w.before _ s = true := fun w h => hts w (List.mem_cons_of_mem _ h)
  have hown : s.vm.findClass R_M = some m.cls := findClass_of_methodNamed B.named
  have hlocks := B.notSynchronized
  have hl := lv_entry ([.long a0]) (n := 2) (Nat.le_of_ble_eq_true rfl)
  rw [lg_entry_eq]
  generalize (lg_sl ([.long a0]) ++ List.replicate (2 - (lg_sl ([.long a0])).length) Slot.unset).toArray = ls at hl ⊢
  have hl : lv_has ls 2 [(0, .long a0)] := hl
  unfold f_M_xOf at hF
  refine lv_lload_n hx hb d_M_xOf_0 rfl (lv_at hl 0 rfl) ?_
  refine lv_ldc2 (v := 2147483648) hx hb hown (hw _ ww_600) d_M_xOf_1 ?_
  refine lv_ldiv hx hb d_M_xOf_4 (by decide) ?_
  obtain rfl := Option.some.inj hF
  exact W.lret hx hb hr (fun t ht hW => ⟨_, rfl, rfl, ht⟩) (fun _ h => nomatch h) d_M_xOf_5
def f_M_yOf (a0 : Int64) : Option Int64 := some (a0 - a0 / 2147483648 * 2147483648)
abbrev rm_M_yOf : Room := { frames := 0, cells := 0, slots := 0, locals := 0 }
set_option maxHeartbeats 4000000 in
set_option maxRecDepth 100000 in
theorem k_M_yOf (l : Launch) (a0 : Int64) (r : Int64) (hF : f_M_yOf a0 = some r) : Met l y_M_yOf (Cond.code y_M_yOf b_M_yOf 2 (some .long) :: wa) rm_M_yOf (pcs [.long a0]) (vp_Sl (fun z => z = r)) 0 0 (fun _ => False) := by
  refine Met.ofW (cc := b_M_yOf) (maxL := 2) (ret := (some .long)) (by decide) rfl ?_
  intro p e s m args below meth c s₁ B hml hv
  obtain ⟨rfl, hN⟩ := hv
  have hx := B.exec
  have hb := B.bytes
  have hr := B.returns
  have hts := atoms_spec (ws := Cond.code y_M_yOf b_M_yOf 2 (some .long) :: wa) B.pre
  have hw : ∀ w ∈ wa, w.before _ s = true := fun w h => hts w (List.mem_cons_of_mem _ h)
  have hown : s.vm.findClass R_M = some m.cls := findClass_of_methodNamed B.named
  have hlocks := B.notSynchronized
  have hl := lv_entry ([.long a0]) (n := 2) (Nat.le_of_ble_eq_true rfl)
  rw [lg_entry_eq]
  generalize (lg_sl ([.long a0]) ++ List.replicate (2 - (lg_sl ([.long a0])).length) Slot.unset).toArray = ls at hl ⊢
  have hl : lv_has ls 2 [(0, .long a0)] := hl
  unfold f_M_yOf at hF
  refine lv_lload_n hx hb d_M_yOf_0 rfl (lv_at hl 0 rfl) ?_
  refine lv_ldc2 (v := 2147483648) hx hb hown (hw _ ww_600) d_M_yOf_1 ?_
  refine lv_lrem hx hb d_M_yOf_4 (by decide) ?_
  obtain rfl := Option.some.inj hF
  exact W.lret hx hb hr (fun t ht hW => ⟨_, rfl, rfl, ht⟩) (fun _ h => nomatch h) d_M_yOf_5
def f_M_sum (a0 : Int64) (a1 : Int64) : Option Int64 := if (lg_cmp a0 (-1)) = 0 then (Option.bind (if (lg_cmp a0 (-1)) = 0 then (some (a1) : Option (Int64)) else (some (a0))) (fun j1 => some (j1))) else (if (lg_cmp a1 (-1)) = 0 then (Option.bind (if (lg_cmp a0 (-1)) = 0 then (some (a1) : Option (Int64)) else (some (a0))) (fun j29 => some (j29))) else (Option.bind (f_M_xOf a0) (fun r5 => Option.bind (f_M_yOf a0) (fun r6 => Option.bind (f_M_xOf a1) (fun r7 => Option.bind (f_M_yOf a1) (fun r8 => if (lg_cmp r5 r7) = 0 then (if (lg_cmp r6 r8) = 0 then (Option.bind (if (lg_cmp r5 r7) = 0 then (Option.bind (f_M_quotient (3 * ((r5 * r5) - (r5 * r5) / 1073735023 * 1073735023)) (2 * r6) 1073735023) (fun r28 => some (r28)) : Option (Int64)) else (Option.bind (f_M_mod (r7 - r5) 1073735023) (fun r26 => Option.bind (f_M_quotient (r8 - r6) r26 1073735023) (fun r27 => some (r27))))) (fun j19 => Option.bind (f_M_mod ((((j19 * j19) - (j19 * j19) / 1073735023 * 1073735023) - r5) - r7) 1073735023) (fun r23 => Option.bind (f_M_mod (r5 - r23) 1073735023) (fun r24 => Option.bind (f_M_mod (((j19 * r24) - (j19 * r24) / 1073735023 * 1073735023) - r6) 1073735023) (fun r25 => some ((r23 * 2147483648) + r25)))))) else (some ((-1)))) else (Option.bind (if (lg_cmp r5 r7) = 0 then (Option.bind (f_M_quotient (3 * ((r5 * r5) - (r5 * r5) / 1073735023 * 1073735023)) (2 * r6) 1073735023) (fun r18 => some (r18)) : Option (Int64)) else (Option.bind (f_M_mod (r7 - r5) 1073735023) (fun r16 => Option.bind (f_M_quotient (r8 - r6) r16 1073735023) (fun r17 => some (r17))))) (fun j9 => Option.bind (f_M_mod ((((j9 * j9) - (j9 * j9) / 1073735023 * 1073735023) - r5) - r7) 1073735023) (fun r13 => Option.bind (f_M_mod (r5 - r13) 1073735023) (fun r14 => Option.bind (f_M_mod (((j9 * r14) - (j9 * r14) / 1073735023 * 1073735023) - r6) 1073735023) (fun r15 => some ((r13 * 2147483648) + r15))))))))))))
abbrev rm_M_sum : Room := { frames := 3, cells := 0, slots := 0, locals := 81 }
set_option maxHeartbeats 4000000 in
set_option maxRecDepth 100000 in
theorem k_M_sum (l : Launch) (a0 : Int64) (a1 : Int64) (r : Int64) (hF : f_M_sum a0 a1 = some r) : Met l y_M_sum (Cond.code y_M_sum b_M_sum 18 (some .long) :: wa) rm_M_sum (pcs [.long a0, .long a1]) (vp_Sl (fun z => z = r)) 0 0 (fun _ => False) := by
  refine Met.ofW (cc := b_M_sum) (maxL := 18) (ret := (some .long)) (by decide) rfl ?_
  intro p e s m args below meth c s₁ B hml hv
  obtain ⟨rfl, hN⟩ := hv
  have hx := B.exec
  have hb := B.bytes
  have hr := B.returns
  have hts := atoms_spec (ws := Cond.code y_M_sum b_M_sum 18 (some .long) :: wa) B.pre
  have hw : ∀ w ∈ wa, w.before _ s = true := fun w h => hts w (List.mem_cons_of_mem _ h)
  have hown : s.vm.findClass R_M = some m.cls := findClass_of_methodNamed B.named
  have hlocks := B.notSynchronized
  have hl := lv_entry ([.long a0, .long a1]) (n := 18) (Nat.le_of_ble_eq_true rfl)
  rw [lg_entry_eq]
  generalize (lg_sl ([.long a0, .long a1]) ++ List.replicate (18 - (lg_sl ([.long a0, .long a1])).length) Slot.unset).toArray = ls at hl ⊢
  have hl : lv_has ls 18 [(0, .long a0), (2, .long a1)] := hl
  unfold f_M_sum at hF
  refine lv_lload_n hx hb d_M_sum_0 rfl (lv_at hl 0 rfl) ?_
  refine lv_ldc2 (v := (-1)) hx hb hown (hw _ ww_533) d_M_sum_1 ?_
  refine W.lcmp hx hb d_M_sum_4 ?_
  refine lv_if_eq hx hb d_M_sum_5 (tgt := 16) (by decide) (fun h9 => ?_) (fun h9 => ?_)
  · have hF := (if_pos h9).symm.trans hF
    refine lv_lload_n hx hb d_M_sum_16 rfl (lv_at hl 0 rfl) ?_
    refine lv_ldc2 (v := (-1)) hx hb hown (hw _ ww_533) d_M_sum_17 ?_
    refine W.lcmp hx hb d_M_sum_20 ?_
    obtain ⟨j1, q3, hF⟩ := Option.bind_eq_some_iff.mp hF
    have k2 : ∀ (ls : Array Slot), lv_has ls 18 [] → W p l e rm_M_sum s m ([Value.long a0, Value.long a1] : List Value).toArray below meth c s.heap [] 0 0 (MQ below (vp_Sl (fun z => z = r)) ([Value.long a0, Value.long a1] : List Value).toArray s 0 0 (fun _ => False)) (F0 m 29 ls [.long j1]) := by
      intro ls hl
      obtain rfl := Option.some.inj hF
      exact W.lret hx hb hr (fun t ht hW => ⟨_, rfl, rfl, ht⟩) (fun _ h => nomatch h) d_M_sum_29
    clear hF
    have hF := q3
    refine lv_if_ne hx hb d_M_sum_21 (tgt := 28) (by decide) (fun h9 => ?_) (fun h9 => ?_)
    · have hF := (if_neg h9).symm.trans hF
      refine lv_lload_n hx hb d_M_sum_28 rfl (lv_at hl 0 rfl) ?_
      obtain rfl := Option.some.inj hF
      exact k2 ls (lv_sub hl [] rfl)
    · have hF := (if_pos h9).symm.trans hF
      refine lv_lload_n hx hb d_M_sum_24 rfl (lv_at hl 1 rfl) ?_
      refine lv_goto hx hb d_M_sum_25 (tgt := 29) (by decide) ?_
      obtain rfl := Option.some.inj hF
      exact k2 ls (lv_sub hl [] rfl)
  · have hF := (if_neg h9).symm.trans hF
    refine lv_lload_n hx hb d_M_sum_8 rfl (lv_at hl 1 rfl) ?_
    refine lv_ldc2 (v := (-1)) hx hb hown (hw _ ww_533) d_M_sum_9 ?_
    refine W.lcmp hx hb d_M_sum_12 ?_
    refine lv_if_ne hx hb d_M_sum_13 (tgt := 30) (by decide) (fun h9 => ?_) (fun h9 => ?_)
    · have hF := (if_neg h9).symm.trans hF
      refine lv_lload_n hx hb d_M_sum_30 rfl (lv_at hl 0 rfl) ?_
      obtain ⟨r5, e_r5, hF⟩ := Option.bind_eq_some_iff.mp hF
      refine vp_callSl (va_runS (As := [.long a0]) (rest := []) ⟨hx, hb, hml, hown, hts⟩ (k_M_xOf l a0 r5 e_r5) (va_cwS 1 hts (ga_S ww_597 ww_598 ww_4 ww_599) rfl rfl rfl (by decide +kernel) ⟨by decide, by decide⟩) (pcs_pre hN) rfl rfl hl.1 rfl (lv_room (Nat.le_of_ble_eq_true rfl)) d_M_sum_31 ⟨Nat.zero_le _, Nat.zero_le _⟩).run (fun z9 hz9 => ?_)
      obtain rfl : r5 = z9 := hz9.symm
      refine lv_lstore hx hb d_M_sum_34 hl (by decide) (lv' := [(4, .long r5), (0, .long a0), (2, .long a1)]) rfl (fun ls hl => ?_)
      refine lv_lload_n hx hb d_M_sum_36 rfl (lv_at hl 1 rfl) ?_
      obtain ⟨r6, e_r6, hF⟩ := Option.bind_eq_some_iff.mp hF
      refine vp_callSl (va_runS (As := [.long a0]) (rest := []) ⟨hx, hb, hml, hown, hts⟩ (k_M_yOf l a0 r6 e_r6) (va_cwS 1 hts (ga_S ww_601 ww_602 ww_4 ww_603) rfl rfl rfl (by decide +kernel) ⟨by decide, by decide⟩) (pcs_pre hN) rfl rfl hl.1 rfl (lv_room (Nat.le_of_ble_eq_true rfl)) d_M_sum_37 ⟨Nat.zero_le _, Nat.zero_le _⟩).run (fun z9 hz9 => ?_)
      obtain rfl : r6 = z9 := hz9.symm
      refine lv_lstore hx hb d_M_sum_40 hl (by decide) (lv' := [(6, .long r6), (4, .long r5), (0, .long a0), (2, .long a1)]) rfl (fun ls hl => ?_)
      refine lv_lload_n hx hb d_M_sum_42 rfl (lv_at hl 3 rfl) ?_
      obtain ⟨r7, e_r7, hF⟩ := Option.bind_eq_some_iff.mp hF
      refine vp_callSl (va_runS (As := [.long a1]) (rest := []) ⟨hx, hb, hml, hown, hts⟩ (k_M_xOf l a1 r7 e_r7) (va_cwS 1 hts (ga_S ww_597 ww_598 ww_4 ww_599) rfl rfl rfl (by decide +kernel) ⟨by decide, by decide⟩) (pcs_pre hN) rfl rfl hl.1 rfl (lv_room (Nat.le_of_ble_eq_true rfl)) d_M_sum_43 ⟨Nat.zero_le _, Nat.zero_le _⟩).run (fun z9 hz9 => ?_)
      obtain rfl : r7 = z9 := hz9.symm
      refine lv_lstore hx hb d_M_sum_46 hl (by decide) (lv' := [(8, .long r7), (6, .long r6), (4, .long r5), (0, .long a0), (2, .long a1)]) rfl (fun ls hl => ?_)
      refine lv_lload_n hx hb d_M_sum_48 rfl (lv_at hl 4 rfl) ?_
      obtain ⟨r8, e_r8, hF⟩ := Option.bind_eq_some_iff.mp hF
      refine vp_callSl (va_runS (As := [.long a1]) (rest := []) ⟨hx, hb, hml, hown, hts⟩ (k_M_yOf l a1 r8 e_r8) (va_cwS 1 hts (ga_S ww_601 ww_602 ww_4 ww_603) rfl rfl rfl (by decide +kernel) ⟨by decide, by decide⟩) (pcs_pre hN) rfl rfl hl.1 rfl (lv_room (Nat.le_of_ble_eq_true rfl)) d_M_sum_49 ⟨Nat.zero_le _, Nat.zero_le _⟩).run (fun z9 hz9 => ?_)
      obtain rfl : r8 = z9 := hz9.symm
      refine lv_lstore hx hb d_M_sum_52 hl (by decide) (lv' := [(10, .long r8), (8, .long r7), (6, .long r6), (4, .long r5), (0, .long a0), (2, .long a1)]) rfl (fun ls hl => ?_)
      refine lv_lload hx hb d_M_sum_54 (lv_at hl 3 rfl) ?_
      refine lv_lload hx hb d_M_sum_56 (lv_at hl 1 rfl) ?_
      refine W.lcmp hx hb d_M_sum_58 ?_
      refine lv_if_ne hx hb d_M_sum_59 (tgt := 74) (by decide) (fun h9 => ?_) (fun h9 => ?_)
      · have hF := (if_neg h9).symm.trans hF
        refine lv_lload hx hb d_M_sum_74 (lv_at hl 3 rfl) ?_
        refine lv_lload hx hb d_M_sum_76 (lv_at hl 1 rfl) ?_
        refine W.lcmp hx hb d_M_sum_78 ?_
        obtain ⟨j9, q11, hF⟩ := Option.bind_eq_some_iff.mp hF
        have k10 : ∀ (ls : Array Slot), lv_has ls 18 [(8, .long r7), (6, .long r6), (4, .long r5)] → W p l e rm_M_sum s m ([Value.long a0, Value.long a1] : List Value).toArray below meth c s.heap [] 0 0 (MQ below (vp_Sl (fun z => z = r)) ([Value.long a0, Value.long a1] : List Value).toArray s 0 0 (fun _ => False)) (F0 m 132 ls [.long j9]) := by
          intro ls hl
          refine lv_lstore hx hb d_M_sum_132 hl (by decide) (lv' := [(12, .long j9), (8, .long r7), (6, .long r6), (4, .long r5)]) rfl (fun ls hl => ?_)
          refine lv_lload hx hb d_M_sum_134 (lv_at hl 0 rfl) ?_
          refine lv_lload hx hb d_M_sum_136 (lv_at hl 0 rfl) ?_
          refine lv_lmul hx hb d_M_sum_138 ?_
          refine lv_ldc2 (v := 1073735023) hx hb hown (hw _ ww_605) d_M_sum_139 ?_
          refine lv_lrem hx hb d_M_sum_142 (by decide) ?_
          refine lv_lload hx hb d_M_sum_143 (lv_at hl 3 rfl) ?_
          refine lv_lsub hx hb d_M_sum_145 ?_
          refine lv_lload hx hb d_M_sum_146 (lv_at hl 1 rfl) ?_
          refine lv_lsub hx hb d_M_sum_148 ?_
          refine lv_ldc2 (v := 1073735023) hx hb hown (hw _ ww_605) d_M_sum_149 ?_
          obtain ⟨r13, e_r13, hF⟩ := Option.bind_eq_some_iff.mp hF
          refine vp_callSl (va_runS (As := [.long ((((j9 * j9) - (j9 * j9) / 1073735023 * 1073735023) - r5) - r7), .long 1073735023]) (rest := []) ⟨hx, hb, hml, hown, hts⟩ (k_M_mod l ((((j9 * j9) - (j9 * j9) / 1073735023 * 1073735023) - r5) - r7) 1073735023 r13 e_r13) (va_cwS 2 hts (ga_S ww_609 ww_610 ww_4 ww_611) rfl rfl rfl (by decide +kernel) ⟨by decide, by decide⟩) (pcs_pre hN) rfl rfl hl.1 rfl (lv_room (Nat.le_of_ble_eq_true rfl)) d_M_sum_152 ⟨Nat.zero_le _, Nat.zero_le _⟩).run (fun z9 hz9 => ?_)
          obtain rfl : r13 = z9 := hz9.symm
          refine lv_lstore hx hb d_M_sum_155 hl (by decide) (lv' := [(14, .long r13), (12, .long j9), (8, .long r7), (6, .long r6), (4, .long r5)]) rfl (fun ls hl => ?_)
          refine lv_lload hx hb d_M_sum_157 (lv_at hl 1 rfl) ?_
          refine lv_lload hx hb d_M_sum_159 (lv_at hl 4 rfl) ?_
          refine lv_lload hx hb d_M_sum_161 (lv_at hl 0 rfl) ?_
          refine lv_lsub hx hb d_M_sum_163 ?_
          refine lv_ldc2 (v := 1073735023) hx hb hown (hw _ ww_605) d_M_sum_164 ?_
          obtain ⟨r14, e_r14, hF⟩ := Option.bind_eq_some_iff.mp hF
          refine vp_callSl (va_runS (As := [.long (r5 - r13), .long 1073735023]) (rest := [.long j9]) ⟨hx, hb, hml, hown, hts⟩ (k_M_mod l (r5 - r13) 1073735023 r14 e_r14) (va_cwS 2 hts (ga_S ww_609 ww_610 ww_4 ww_611) rfl rfl rfl (by decide +kernel) ⟨by decide, by decide⟩) (pcs_pre hN) rfl rfl hl.1 rfl (lv_room (Nat.le_of_ble_eq_true rfl)) d_M_sum_167 ⟨Nat.zero_le _, Nat.zero_le _⟩).run (fun z9 hz9 => ?_)
          obtain rfl : r14 = z9 := hz9.symm
          refine lv_lmul hx hb d_M_sum_170 ?_
          refine lv_ldc2 (v := 1073735023) hx hb hown (hw _ ww_605) d_M_sum_171 ?_
          refine lv_lrem hx hb d_M_sum_174 (by decide) ?_
          refine lv_lload hx hb d_M_sum_175 (lv_at hl 3 rfl) ?_
          refine lv_lsub hx hb d_M_sum_177 ?_
          refine lv_ldc2 (v := 1073735023) hx hb hown (hw _ ww_605) d_M_sum_178 ?_
          obtain ⟨r15, e_r15, hF⟩ := Option.bind_eq_some_iff.mp hF
          refine vp_callSl (va_runS (As := [.long (((j9 * r14) - (j9 * r14) / 1073735023 * 1073735023) - r6), .long 1073735023]) (rest := []) ⟨hx, hb, hml, hown, hts⟩ (k_M_mod l (((j9 * r14) - (j9 * r14) / 1073735023 * 1073735023) - r6) 1073735023 r15 e_r15) (va_cwS 2 hts (ga_S ww_609 ww_610 ww_4 ww_611) rfl rfl rfl (by decide +kernel) ⟨by decide, by decide⟩) (pcs_pre hN) rfl rfl hl.1 rfl (lv_room (Nat.le_of_ble_eq_true rfl)) d_M_sum_181 ⟨Nat.zero_le _, Nat.zero_le _⟩).run (fun z9 hz9 => ?_)
          obtain rfl : r15 = z9 := hz9.symm
          refine lv_lstore hx hb d_M_sum_184 hl (by decide) (lv' := [(16, .long r15), (14, .long r13), (12, .long j9), (8, .long r7), (6, .long r6), (4, .long r5)]) rfl (fun ls hl => ?_)
          refine lv_lload hx hb d_M_sum_186 (lv_at hl 1 rfl) ?_
          refine lv_ldc2 (v := 2147483648) hx hb hown (hw _ ww_600) d_M_sum_188 ?_
          refine lv_lmul hx hb d_M_sum_191 ?_
          refine lv_lload hx hb d_M_sum_192 (lv_at hl 0 rfl) ?_
          refine lv_ladd hx hb d_M_sum_194 ?_
          obtain rfl := Option.some.inj hF
          exact W.lret hx hb hr (fun t ht hW => ⟨_, rfl, rfl, ht⟩) (fun _ h => nomatch h) d_M_sum_195
        clear hF
        have hF := q11
        refine lv_if_ne hx hb d_M_sum_79 (tgt := 110) (by decide) (fun h9 => ?_) (fun h9 => ?_)
        · have hF := (if_neg h9).symm.trans hF
          refine lv_lload hx hb d_M_sum_110 (lv_at hl 0 rfl) ?_
          refine lv_lload hx hb d_M_sum_112 (lv_at hl 2 rfl) ?_
          refine lv_lsub hx hb d_M_sum_114 ?_
          refine lv_lload hx hb d_M_sum_115 (lv_at hl 1 rfl) ?_
          refine lv_lload hx hb d_M_sum_117 (lv_at hl 3 rfl) ?_
          refine lv_lsub hx hb d_M_sum_119 ?_
          refine lv_ldc2 (v := 1073735023) hx hb hown (hw _ ww_605) d_M_sum_120 ?_
          obtain ⟨r16, e_r16, hF⟩ := Option.bind_eq_some_iff.mp hF
          refine vp_callSl (va_runS (As := [.long (r7 - r5), .long 1073735023]) (rest := [.long (r8 - r6)]) ⟨hx, hb, hml, hown, hts⟩ (k_M_mod l (r7 - r5) 1073735023 r16 e_r16) (va_cwS 2 hts (ga_S ww_609 ww_610 ww_4 ww_611) rfl rfl rfl (by decide +kernel) ⟨by decide, by decide⟩) (pcs_pre hN) rfl rfl hl.1 rfl (lv_room (Nat.le_of_ble_eq_true rfl)) d_M_sum_123 ⟨Nat.zero_le _, Nat.zero_le _⟩).run (fun z9 hz9 => ?_)
          obtain rfl : r16 = z9 := hz9.symm
          refine lv_ldc2 (v := 1073735023) hx hb hown (hw _ ww_605) d_M_sum_126 ?_
          obtain ⟨r17, e_r17, hF⟩ := Option.bind_eq_some_iff.mp hF
          refine vp_callSl (va_runS (As := [.long (r8 - r6), .long r16, .long 1073735023]) (rest := []) ⟨hx, hb, hml, hown, hts⟩ (k_M_quotient l (r8 - r6) r16 1073735023 r17 e_r17) (va_cwS 3 hts (ga_S ww_606 ww_607 ww_4 ww_608) rfl rfl rfl (by decide +kernel) ⟨by decide, by decide⟩) (pcs_pre hN) rfl rfl hl.1 rfl (lv_room (Nat.le_of_ble_eq_true rfl)) d_M_sum_129 ⟨Nat.zero_le _, Nat.zero_le _⟩).run (fun z9 hz9 => ?_)
          obtain rfl : r17 = z9 := hz9.symm
          obtain rfl := Option.some.inj hF
          exact k10 ls (lv_sub hl [1, 2, 3] rfl)
        · have hF := (if_pos h9).symm.trans hF
          refine lv_ldc2 (v := 3) hx hb hown (hw _ ww_604) d_M_sum_82 ?_
          refine lv_lload hx hb d_M_sum_85 (lv_at hl 3 rfl) ?_
          refine lv_lload hx hb d_M_sum_87 (lv_at hl 3 rfl) ?_
          refine lv_lmul hx hb d_M_sum_89 ?_
          refine lv_ldc2 (v := 1073735023) hx hb hown (hw _ ww_605) d_M_sum_90 ?_
          refine lv_lrem hx hb d_M_sum_93 (by decide) ?_
          refine lv_lmul hx hb d_M_sum_94 ?_
          refine lv_ldc2 (v := 2) hx hb hown (hw _ ww_593) d_M_sum_95 ?_
          refine lv_lload hx hb d_M_sum_98 (lv_at hl 2 rfl) ?_
          refine lv_lmul hx hb d_M_sum_100 ?_
          refine lv_ldc2 (v := 1073735023) hx hb hown (hw _ ww_605) d_M_sum_101 ?_
          obtain ⟨r18, e_r18, hF⟩ := Option.bind_eq_some_iff.mp hF
          refine vp_callSl (va_runS (As := [.long (3 * ((r5 * r5) - (r5 * r5) / 1073735023 * 1073735023)), .long (2 * r6), .long 1073735023]) (rest := []) ⟨hx, hb, hml, hown, hts⟩ (k_M_quotient l (3 * ((r5 * r5) - (r5 * r5) / 1073735023 * 1073735023)) (2 * r6) 1073735023 r18 e_r18) (va_cwS 3 hts (ga_S ww_606 ww_607 ww_4 ww_608) rfl rfl rfl (by decide +kernel) ⟨by decide, by decide⟩) (pcs_pre hN) rfl rfl hl.1 rfl (lv_room (Nat.le_of_ble_eq_true rfl)) d_M_sum_104 ⟨Nat.zero_le _, Nat.zero_le _⟩).run (fun z9 hz9 => ?_)
          obtain rfl : r18 = z9 := hz9.symm
          refine lv_goto hx hb d_M_sum_107 (tgt := 132) (by decide) ?_
          obtain rfl := Option.some.inj hF
          exact k10 ls (lv_sub hl [1, 2, 3] rfl)
      · have hF := (if_pos h9).symm.trans hF
        refine lv_lload hx hb d_M_sum_62 (lv_at hl 2 rfl) ?_
        refine lv_lload hx hb d_M_sum_64 (lv_at hl 0 rfl) ?_
        refine W.lcmp hx hb d_M_sum_66 ?_
        refine lv_if_eq hx hb d_M_sum_67 (tgt := 74) (by decide) (fun h9 => ?_) (fun h9 => ?_)
        · have hF := (if_pos h9).symm.trans hF
          refine lv_lload hx hb d_M_sum_74 (lv_at hl 3 rfl) ?_
          refine lv_lload hx hb d_M_sum_76 (lv_at hl 1 rfl) ?_
          refine W.lcmp hx hb d_M_sum_78 ?_
          obtain ⟨j19, q21, hF⟩ := Option.bind_eq_some_iff.mp hF
          have k20 : ∀ (ls : Array Slot), lv_has ls 18 [(8, .long r7), (6, .long r6), (4, .long r5)] → W p l e rm_M_sum s m ([Value.long a0, Value.long a1] : List Value).toArray below meth c s.heap [] 0 0 (MQ below (vp_Sl (fun z => z = r)) ([Value.long a0, Value.long a1] : List Value).toArray s 0 0 (fun _ => False)) (F0 m 132 ls [.long j19]) := by
            intro ls hl
            refine lv_lstore hx hb d_M_sum_132 hl (by decide) (lv' := [(12, .long j19), (8, .long r7), (6, .long r6), (4, .long r5)]) rfl (fun ls hl => ?_)
            refine lv_lload hx hb d_M_sum_134 (lv_at hl 0 rfl) ?_
            refine lv_lload hx hb d_M_sum_136 (lv_at hl 0 rfl) ?_
            refine lv_lmul hx hb d_M_sum_138 ?_
            refine lv_ldc2 (v := 1073735023) hx hb hown (hw _ ww_605) d_M_sum_139 ?_
            refine lv_lrem hx hb d_M_sum_142 (by decide) ?_
            refine lv_lload hx hb d_M_sum_143 (lv_at hl 3 rfl) ?_
            refine lv_lsub hx hb d_M_sum_145 ?_
            refine lv_lload hx hb d_M_sum_146 (lv_at hl 1 rfl) ?_
            refine lv_lsub hx hb d_M_sum_148 ?_
            refine lv_ldc2 (v := 1073735023) hx hb hown (hw _ ww_605) d_M_sum_149 ?_
            obtain ⟨r23, e_r23, hF⟩ := Option.bind_eq_some_iff.mp hF
            refine vp_callSl (va_runS (As := [.long ((((j19 * j19) - (j19 * j19) / 1073735023 * 1073735023) - r5) - r7), .long 1073735023]) (rest := []) ⟨hx, hb, hml, hown, hts⟩ (k_M_mod l ((((j19 * j19) - (j19 * j19) / 1073735023 * 1073735023) - r5) - r7) 1073735023 r23 e_r23) (va_cwS 2 hts (ga_S ww_609 ww_610 ww_4 ww_611) rfl rfl rfl (by decide +kernel) ⟨by decide, by decide⟩) (pcs_pre hN) rfl rfl hl.1 rfl (lv_room (Nat.le_of_ble_eq_true rfl)) d_M_sum_152 ⟨Nat.zero_le _, Nat.zero_le _⟩).run (fun z9 hz9 => ?_)
            obtain rfl : r23 = z9 := hz9.symm
            refine lv_lstore hx hb d_M_sum_155 hl (by decide) (lv' := [(14, .long r23), (12, .long j19), (8, .long r7), (6, .long r6), (4, .long r5)]) rfl (fun ls hl => ?_)
            refine lv_lload hx hb d_M_sum_157 (lv_at hl 1 rfl) ?_
            refine lv_lload hx hb d_M_sum_159 (lv_at hl 4 rfl) ?_
            refine lv_lload hx hb d_M_sum_161 (lv_at hl 0 rfl) ?_
            refine lv_lsub hx hb d_M_sum_163 ?_
            refine lv_ldc2 (v := 1073735023) hx hb hown (hw _ ww_605) d_M_sum_164 ?_
            obtain ⟨r24, e_r24, hF⟩ := Option.bind_eq_some_iff.mp hF
            refine vp_callSl (va_runS (As := [.long (r5 - r23), .long 1073735023]) (rest := [.long j19]) ⟨hx, hb, hml, hown, hts⟩ (k_M_mod l (r5 - r23) 1073735023 r24 e_r24) (va_cwS 2 hts (ga_S ww_609 ww_610 ww_4 ww_611) rfl rfl rfl (by decide +kernel) ⟨by decide, by decide⟩) (pcs_pre hN) rfl rfl hl.1 rfl (lv_room (Nat.le_of_ble_eq_true rfl)) d_M_sum_167 ⟨Nat.zero_le _, Nat.zero_le _⟩).run (fun z9 hz9 => ?_)
            obtain rfl : r24 = z9 := hz9.symm
            refine lv_lmul hx hb d_M_sum_170 ?_
            refine lv_ldc2 (v := 1073735023) hx hb hown (hw _ ww_605) d_M_sum_171 ?_
            refine lv_lrem hx hb d_M_sum_174 (by decide) ?_
            refine lv_lload hx hb d_M_sum_175 (lv_at hl 3 rfl) ?_
            refine lv_lsub hx hb d_M_sum_177 ?_
            refine lv_ldc2 (v := 1073735023) hx hb hown (hw _ ww_605) d_M_sum_178 ?_
            obtain ⟨r25, e_r25, hF⟩ := Option.bind_eq_some_iff.mp hF
            refine vp_callSl (va_runS (As := [.long (((j19 * r24) - (j19 * r24) / 1073735023 * 1073735023) - r6), .long 1073735023]) (rest := []) ⟨hx, hb, hml, hown, hts⟩ (k_M_mod l (((j19 * r24) - (j19 * r24) / 1073735023 * 1073735023) - r6) 1073735023 r25 e_r25) (va_cwS 2 hts (ga_S ww_609 ww_610 ww_4 ww_611) rfl rfl rfl (by decide +kernel) ⟨by decide, by decide⟩) (pcs_pre hN) rfl rfl hl.1 rfl (lv_room (Nat.le_of_ble_eq_true rfl)) d_M_sum_181 ⟨Nat.zero_le _, Nat.zero_le _⟩).run (fun z9 hz9 => ?_)
            obtain rfl : r25 = z9 := hz9.symm
            refine lv_lstore hx hb d_M_sum_184 hl (by decide) (lv' := [(16, .long r25), (14, .long r23), (12, .long j19), (8, .long r7), (6, .long r6), (4, .long r5)]) rfl (fun ls hl => ?_)
            refine lv_lload hx hb d_M_sum_186 (lv_at hl 1 rfl) ?_
            refine lv_ldc2 (v := 2147483648) hx hb hown (hw _ ww_600) d_M_sum_188 ?_
            refine lv_lmul hx hb d_M_sum_191 ?_
            refine lv_lload hx hb d_M_sum_192 (lv_at hl 0 rfl) ?_
            refine lv_ladd hx hb d_M_sum_194 ?_
            obtain rfl := Option.some.inj hF
            exact W.lret hx hb hr (fun t ht hW => ⟨_, rfl, rfl, ht⟩) (fun _ h => nomatch h) d_M_sum_195
          clear hF
          have hF := q21
          refine lv_if_ne hx hb d_M_sum_79 (tgt := 110) (by decide) (fun h9 => ?_) (fun h9 => ?_)
          · have hF := (if_neg h9).symm.trans hF
            refine lv_lload hx hb d_M_sum_110 (lv_at hl 0 rfl) ?_
            refine lv_lload hx hb d_M_sum_112 (lv_at hl 2 rfl) ?_
            refine lv_lsub hx hb d_M_sum_114 ?_
            refine lv_lload hx hb d_M_sum_115 (lv_at hl 1 rfl) ?_
            refine lv_lload hx hb d_M_sum_117 (lv_at hl 3 rfl) ?_
            refine lv_lsub hx hb d_M_sum_119 ?_
            refine lv_ldc2 (v := 1073735023) hx hb hown (hw _ ww_605) d_M_sum_120 ?_
            obtain ⟨r26, e_r26, hF⟩ := Option.bind_eq_some_iff.mp hF
            refine vp_callSl (va_runS (As := [.long (r7 - r5), .long 1073735023]) (rest := [.long (r8 - r6)]) ⟨hx, hb, hml, hown, hts⟩ (k_M_mod l (r7 - r5) 1073735023 r26 e_r26) (va_cwS 2 hts (ga_S ww_609 ww_610 ww_4 ww_611) rfl rfl rfl (by decide +kernel) ⟨by decide, by decide⟩) (pcs_pre hN) rfl rfl hl.1 rfl (lv_room (Nat.le_of_ble_eq_true rfl)) d_M_sum_123 ⟨Nat.zero_le _, Nat.zero_le _⟩).run (fun z9 hz9 => ?_)
            obtain rfl : r26 = z9 := hz9.symm
            refine lv_ldc2 (v := 1073735023) hx hb hown (hw _ ww_605) d_M_sum_126 ?_
            obtain ⟨r27, e_r27, hF⟩ := Option.bind_eq_some_iff.mp hF
            refine vp_callSl (va_runS (As := [.long (r8 - r6), .long r26, .long 1073735023]) (rest := []) ⟨hx, hb, hml, hown, hts⟩ (k_M_quotient l (r8 - r6) r26 1073735023 r27 e_r27) (va_cwS 3 hts (ga_S ww_606 ww_607 ww_4 ww_608) rfl rfl rfl (by decide +kernel) ⟨by decide, by decide⟩) (pcs_pre hN) rfl rfl hl.1 rfl (lv_room (Nat.le_of_ble_eq_true rfl)) d_M_sum_129 ⟨Nat.zero_le _, Nat.zero_le _⟩).run (fun z9 hz9 => ?_)
            obtain rfl : r27 = z9 := hz9.symm
            obtain rfl := Option.some.inj hF
            exact k20 ls (lv_sub hl [1, 2, 3] rfl)
          · have hF := (if_pos h9).symm.trans hF
            refine lv_ldc2 (v := 3) hx hb hown (hw _ ww_604) d_M_sum_82 ?_
            refine lv_lload hx hb d_M_sum_85 (lv_at hl 3 rfl) ?_
            refine lv_lload hx hb d_M_sum_87 (lv_at hl 3 rfl) ?_
            refine lv_lmul hx hb d_M_sum_89 ?_
            refine lv_ldc2 (v := 1073735023) hx hb hown (hw _ ww_605) d_M_sum_90 ?_
            refine lv_lrem hx hb d_M_sum_93 (by decide) ?_
            refine lv_lmul hx hb d_M_sum_94 ?_
            refine lv_ldc2 (v := 2) hx hb hown (hw _ ww_593) d_M_sum_95 ?_
            refine lv_lload hx hb d_M_sum_98 (lv_at hl 2 rfl) ?_
            refine lv_lmul hx hb d_M_sum_100 ?_
            refine lv_ldc2 (v := 1073735023) hx hb hown (hw _ ww_605) d_M_sum_101 ?_
            obtain ⟨r28, e_r28, hF⟩ := Option.bind_eq_some_iff.mp hF
            refine vp_callSl (va_runS (As := [.long (3 * ((r5 * r5) - (r5 * r5) / 1073735023 * 1073735023)), .long (2 * r6), .long 1073735023]) (rest := []) ⟨hx, hb, hml, hown, hts⟩ (k_M_quotient l (3 * ((r5 * r5) - (r5 * r5) / 1073735023 * 1073735023)) (2 * r6) 1073735023 r28 e_r28) (va_cwS 3 hts (ga_S ww_606 ww_607 ww_4 ww_608) rfl rfl rfl (by decide +kernel) ⟨by decide, by decide⟩) (pcs_pre hN) rfl rfl hl.1 rfl (lv_room (Nat.le_of_ble_eq_true rfl)) d_M_sum_104 ⟨Nat.zero_le _, Nat.zero_le _⟩).run (fun z9 hz9 => ?_)
            obtain rfl : r28 = z9 := hz9.symm
            refine lv_goto hx hb d_M_sum_107 (tgt := 132) (by decide) ?_
            obtain rfl := Option.some.inj hF
            exact k20 ls (lv_sub hl [1, 2, 3] rfl)
        · have hF := (if_neg h9).symm.trans hF
          refine lv_ldc2 (v := (-1)) hx hb hown (hw _ ww_533) d_M_sum_70 ?_
          obtain rfl := Option.some.inj hF
          exact W.lret hx hb hr (fun t ht hW => ⟨_, rfl, rfl, ht⟩) (fun _ h => nomatch h) d_M_sum_73
    · have hF := (if_pos h9).symm.trans hF
      refine lv_lload_n hx hb d_M_sum_16 rfl (lv_at hl 0 rfl) ?_
      refine lv_ldc2 (v := (-1)) hx hb hown (hw _ ww_533) d_M_sum_17 ?_
      refine W.lcmp hx hb d_M_sum_20 ?_
      obtain ⟨j29, q31, hF⟩ := Option.bind_eq_some_iff.mp hF
      have k30 : ∀ (ls : Array Slot), lv_has ls 18 [] → W p l e rm_M_sum s m ([Value.long a0, Value.long a1] : List Value).toArray below meth c s.heap [] 0 0 (MQ below (vp_Sl (fun z => z = r)) ([Value.long a0, Value.long a1] : List Value).toArray s 0 0 (fun _ => False)) (F0 m 29 ls [.long j29]) := by
        intro ls hl
        obtain rfl := Option.some.inj hF
        exact W.lret hx hb hr (fun t ht hW => ⟨_, rfl, rfl, ht⟩) (fun _ h => nomatch h) d_M_sum_29
      clear hF
      have hF := q31
      refine lv_if_ne hx hb d_M_sum_21 (tgt := 28) (by decide) (fun h9 => ?_) (fun h9 => ?_)
      · have hF := (if_neg h9).symm.trans hF
        refine lv_lload_n hx hb d_M_sum_28 rfl (lv_at hl 0 rfl) ?_
        obtain rfl := Option.some.inj hF
        exact k30 ls (lv_sub hl [] rfl)
      · have hF := (if_pos h9).symm.trans hF
        refine lv_lload_n hx hb d_M_sum_24 rfl (lv_at hl 1 rfl) ?_
        refine lv_goto hx hb d_M_sum_25 (tgt := 29) (by decide) ?_
        obtain rfl := Option.some.inj hF
        exact k30 ls (lv_sub hl [] rfl)
def f_M_times_11 : Nat → Int64 → Int64 → Int64 → Option (Int64 × Int64 × Int64)
  | 0, _, _, _ => none
  | n + 1, u2, u3, u4 => if (lg_cmp u2 0) ≤ 0 then (some (u2, u3, u4)) else (Option.bind (if (lg_cmp (u2 - u2 / 2 * 2) 1) = 0 then (Option.bind (f_M_sum u4 u3) (fun r16 => some (r16)) : Option (Int64)) else (some (u4))) (fun j10 => Option.bind (f_M_sum u3 u3) (fun r14 => Option.bind (some (u2 / 2)) (fun v15 => f_M_times_11  n v15 r14 j10))))
def f_M_times (a0 : Int64) (a1 : Int64) : Option Int64 := Option.bind (some ((-1))) (fun v1 => Option.bind (f_M_times_11  64 a0 a1 v1) (fun t18 => match t18 with | (o6, o7, o8) => (some (o8))))
abbrev rm_M_times : Room := { frames := 4, cells := 0, slots := 0, locals := 118 }
set_option maxHeartbeats 4000000 in
set_option maxRecDepth 100000 in
theorem k_M_times (l : Launch) (a0 : Int64) (a1 : Int64) (r : Int64) (hF : f_M_times a0 a1 = some r) : Met l y_M_times (Cond.code y_M_times b_M_times 10 (some .long) :: wa) rm_M_times (pcs [.long a0, .long a1]) (vp_Sl (fun z => z = r)) 0 0 (fun _ => False) := by
  refine Met.ofW (cc := b_M_times) (maxL := 10) (ret := (some .long)) (by decide) rfl ?_
  intro p e s m args below meth c s₁ B hml hv
  obtain ⟨rfl, hN⟩ := hv
  have hx := B.exec
  have hb := B.bytes
  have hr := B.returns
  have hts := atoms_spec (ws := Cond.code y_M_times b_M_times 10 (some .long) :: wa) B.pre
  have hw : ∀ w ∈ wa, w.before _ s = true := fun w h => hts w (List.mem_cons_of_mem _ h)
  have hown : s.vm.findClass R_M = some m.cls := findClass_of_methodNamed B.named
  have hlocks := B.notSynchronized
  have hl := lv_entry ([.long a0, .long a1]) (n := 10) (Nat.le_of_ble_eq_true rfl)
  rw [lg_entry_eq]
  generalize (lg_sl ([.long a0, .long a1]) ++ List.replicate (10 - (lg_sl ([.long a0, .long a1])).length) Slot.unset).toArray = ls at hl ⊢
  have hl : lv_has ls 10 [(0, .long a0), (2, .long a1)] := hl
  unfold f_M_times at hF
  refine lv_ldc2 (v := (-1)) hx hb hown (hw _ ww_533) d_M_times_0 ?_
  obtain ⟨v1, e_v1, hF⟩ := Option.bind_eq_some_iff.mp hF
  refine nm_l (Option.some.inj e_v1) ?_
  refine lv_lstore hx hb d_M_times_3 hl (by decide) (lv' := [(4, .long v1), (0, .long a0), (2, .long a1)]) rfl (fun ls hl => ?_)
  refine lv_lload_n hx hb d_M_times_5 rfl (lv_at hl 2 rfl) ?_
  refine lv_lstore hx hb d_M_times_6 hl (by decide) (lv' := [(6, .long a1), (4, .long v1), (0, .long a0), (2, .long a1)]) rfl (fun ls hl => ?_)
  refine lv_lload_n hx hb d_M_times_8 rfl (lv_at hl 2 rfl) ?_
  refine lv_lstore hx hb d_M_times_9 hl (by decide) (lv' := [(8, .long a0), (6, .long a1), (4, .long v1), (0, .long a0), (2, .long a1)]) rfl (fun ls hl => ?_)
  obtain ⟨⟨o6, o7, o8⟩, q17, hF⟩ := Option.bind_eq_some_iff.mp hF
  have k9 : ∀ (ls : Array Slot), lv_has ls 10 [(8, .long o6), (6, .long o7), (4, .long o8)] → W p l e rm_M_times s m ([Value.long a0, Value.long a1] : List Value).toArray below meth c s.heap [] 0 0 (MQ below (vp_Sl (fun z => z = r)) ([Value.long a0, Value.long a1] : List Value).toArray s 0 0 (fun _ => False)) (F0 m 63 ls []) := by
    intro ls hl
    refine lv_lload hx hb d_M_times_63 (lv_at hl 2 rfl) ?_
    obtain rfl := Option.some.inj hF
    exact W.lret hx hb hr (fun t ht hW => ⟨_, rfl, rfl, ht⟩) (fun _ h => nomatch h) d_M_times_65
  clear hF
  have k5 : ∀ (n : Nat) (u2 : Int64) (u3 : Int64) (u4 : Int64) (ls : Array Slot), lv_has ls 10 [(8, .long u2), (6, .long u3), (4, .long u4)] → f_M_times_11  n u2 u3 u4 = some (o6, o7, o8) → W p l e rm_M_times s m ([Value.long a0, Value.long a1] : List Value).toArray below meth c s.heap [] 0 0 (MQ below (vp_Sl (fun z => z = r)) ([Value.long a0, Value.long a1] : List Value).toArray s 0 0 (fun _ => False)) (F0 m 11 ls []) := by
    intro n
    induction n with
    | zero => intro u2 u3 u4 ls hl hF; cases hF
    | succ n ih =>
      intro u2 u3 u4 ls hl hF
      rw [f_M_times_11] at hF
      refine lv_lload hx hb d_M_times_11 (lv_at hl 0 rfl) ?_
      refine lv_lconst (v := 0) hx hb d_M_times_13 (by decide) ?_
      refine W.lcmp hx hb d_M_times_14 ?_
      refine lv_if_le hx hb d_M_times_15 (tgt := 63) (by decide) (fun h9 => ?_) (fun h9 => ?_)
      · have hF := (if_pos h9).symm.trans hF
        cases Option.some.inj hF
        exact k9 ls (lv_sub hl [0, 1, 2] rfl)
      · have hF := (if_neg h9).symm.trans hF
        refine lv_lload hx hb d_M_times_18 (lv_at hl 0 rfl) ?_
        refine lv_ldc2 (v := 2) hx hb hown (hw _ ww_593) d_M_times_20 ?_
        refine lv_lrem hx hb d_M_times_23 (by decide) ?_
        refine lv_lconst (v := 1) hx hb d_M_times_24 (by decide) ?_
        refine W.lcmp hx hb d_M_times_25 ?_
        obtain ⟨j10, q12, hF⟩ := Option.bind_eq_some_iff.mp hF
        have k11 : ∀ (ls : Array Slot), lv_has ls 10 [(8, .long u2), (6, .long u3)] → W p l e rm_M_times s m ([Value.long a0, Value.long a1] : List Value).toArray below meth c s.heap [] 0 0 (MQ below (vp_Sl (fun z => z = r)) ([Value.long a0, Value.long a1] : List Value).toArray s 0 0 (fun _ => False)) (F0 m 41 ls [.long j10]) := by
          intro ls hl
          refine lv_lstore hx hb d_M_times_41 hl (by decide) (lv' := [(4, .long j10), (8, .long u2), (6, .long u3)]) rfl (fun ls hl => ?_)
          refine lv_lload hx hb d_M_times_43 (lv_at hl 2 rfl) ?_
          refine lv_lload hx hb d_M_times_45 (lv_at hl 2 rfl) ?_
          obtain ⟨r14, e_r14, hF⟩ := Option.bind_eq_some_iff.mp hF
          refine vp_callSl (va_runS (As := [.long u3, .long u3]) (rest := []) ⟨hx, hb, hml, hown, hts⟩ (k_M_sum l u3 u3 r14 e_r14) (va_cwS 2 hts (ga_S ww_594 ww_595 ww_4 ww_596) rfl rfl rfl (by decide +kernel) ⟨by decide, by decide⟩) (pcs_pre hN) rfl rfl hl.1 rfl (lv_room (Nat.le_of_ble_eq_true rfl)) d_M_times_47 ⟨Nat.zero_le _, Nat.zero_le _⟩).run (fun z9 hz9 => ?_)
          obtain rfl : r14 = z9 := hz9.symm
          refine lv_lstore hx hb d_M_times_50 hl (by decide) (lv' := [(6, .long r14), (4, .long j10), (8, .long u2)]) rfl (fun ls hl => ?_)
          refine lv_lload hx hb d_M_times_52 (lv_at hl 2 rfl) ?_
          refine lv_ldc2 (v := 2) hx hb hown (hw _ ww_593) d_M_times_54 ?_
          refine lv_ldiv hx hb d_M_times_57 (by decide) ?_
          obtain ⟨v15, e_v15, hF⟩ := Option.bind_eq_some_iff.mp hF
          refine nm_l (Option.some.inj e_v15) ?_
          refine lv_lstore hx hb d_M_times_58 hl (by decide) (lv' := [(8, .long v15), (6, .long r14), (4, .long j10)]) rfl (fun ls hl => ?_)
          refine lv_goto hx hb d_M_times_60 (tgt := 11) (by decide) ?_
          exact ih v15 r14 j10 ls (lv_sub hl [0, 1, 2] rfl) hF
        clear hF
        have hF := q12
        refine lv_if_ne hx hb d_M_times_26 (tgt := 39) (by decide) (fun h9 => ?_) (fun h9 => ?_)
        · have hF := (if_neg h9).symm.trans hF
          refine lv_lload hx hb d_M_times_39 (lv_at hl 2 rfl) ?_
          obtain rfl := Option.some.inj hF
          exact k11 ls (lv_sub hl [0, 1] rfl)
        · have hF := (if_pos h9).symm.trans hF
          refine lv_lload hx hb d_M_times_29 (lv_at hl 2 rfl) ?_
          refine lv_lload hx hb d_M_times_31 (lv_at hl 1 rfl) ?_
          obtain ⟨r16, e_r16, hF⟩ := Option.bind_eq_some_iff.mp hF
          refine vp_callSl (va_runS (As := [.long u4, .long u3]) (rest := []) ⟨hx, hb, hml, hown, hts⟩ (k_M_sum l u4 u3 r16 e_r16) (va_cwS 2 hts (ga_S ww_594 ww_595 ww_4 ww_596) rfl rfl rfl (by decide +kernel) ⟨by decide, by decide⟩) (pcs_pre hN) rfl rfl hl.1 rfl (lv_room (Nat.le_of_ble_eq_true rfl)) d_M_times_33 ⟨Nat.zero_le _, Nat.zero_le _⟩).run (fun z9 hz9 => ?_)
          obtain rfl : r16 = z9 := hz9.symm
          refine lv_goto hx hb d_M_times_36 (tgt := 41) (by decide) ?_
          obtain rfl := Option.some.inj hF
          exact k11 ls (lv_sub hl [0, 1] rfl)
  exact k5 64 a0 a1 v1 ls (lv_sub hl [0, 1, 2] rfl) q17
def f_M_g  : Option Int64 := some (2263541708)
abbrev rm_M_g : Room := { frames := 0, cells := 0, slots := 0, locals := 0 }
set_option maxHeartbeats 4000000 in
set_option maxRecDepth 100000 in
theorem k_M_g (l : Launch)  (r : Int64) (hF : f_M_g  = some r) : Met l y_M_g (Cond.code y_M_g b_M_g 0 (some .long) :: wa) rm_M_g (pcs []) (vp_Sl (fun z => z = r)) 0 0 (fun _ => False) := by
  refine Met.ofW (cc := b_M_g) (maxL := 0) (ret := (some .long)) (by decide) rfl ?_
  intro p e s m args below meth c s₁ B hml hv
  obtain ⟨rfl, hN⟩ := hv
  have hx := B.exec
  have hb := B.bytes
  have hr := B.returns
  have hts := atoms_spec (ws := Cond.code y_M_g b_M_g 0 (some .long) :: wa) B.pre
  have hw : ∀ w ∈ wa, w.before _ s = true := fun w h => hts w (List.mem_cons_of_mem _ h)
  have hown : s.vm.findClass R_M = some m.cls := findClass_of_methodNamed B.named
  have hlocks := B.notSynchronized
  have hl := lv_entry ([]) (n := 0) (Nat.le_of_ble_eq_true rfl)
  rw [lg_entry_eq]
  generalize (lg_sl ([]) ++ List.replicate (0 - (lg_sl ([])).length) Slot.unset).toArray = ls at hl ⊢
  have hl : lv_has ls 0 [] := hl
  unfold f_M_g at hF
  refine lv_ldc2 (v := 2263541708) hx hb hown (hw _ ww_589) d_M_g_0 ?_
  obtain rfl := Option.some.inj hF
  exact W.lret hx hb hr (fun t ht hW => ⟨_, rfl, rfl, ht⟩) (fun _ h => nomatch h) d_M_g_3
def f_M_odd (a0 : Int64) : Option Int32 := Option.bind (f_M_yOf a0) (fun r1 => Option.bind (if (lg_cmp (r1 - r1 / 2 * 2) 1) = 0 then (some (1) : Option (Int32)) else (some (0))) (fun j2 => some (j2)))
abbrev rm_M_odd : Room := { frames := 1, cells := 0, slots := 0, locals := 21 }
set_option maxHeartbeats 4000000 in
set_option maxRecDepth 100000 in
theorem k_M_odd (l : Launch) (a0 : Int64) (r : Int32) (hF : f_M_odd a0 = some r) : Met l y_M_odd (Cond.code y_M_odd b_M_odd 2 (some .boolean) :: wa) rm_M_odd (pcs [.long a0]) (vp_Si (fun z => z = r)) 0 0 (fun _ => False) := by
  refine Met.ofW (cc := b_M_odd) (maxL := 2) (ret := (some .boolean)) (by decide) rfl ?_
  intro p e s m args below meth c s₁ B hml hv
  obtain ⟨rfl, hN⟩ := hv
  have hx := B.exec
  have hb := B.bytes
  have hr := B.returns
  have hts := atoms_spec (ws := Cond.code y_M_odd b_M_odd 2 (some .boolean) :: wa) B.pre
  have hw : ∀ w ∈ wa, w.before _ s = true := fun w h => hts w (List.mem_cons_of_mem _ h)
  have hown : s.vm.findClass R_M = some m.cls := findClass_of_methodNamed B.named
  have hlocks := B.notSynchronized
  have hl := lv_entry ([.long a0]) (n := 2) (Nat.le_of_ble_eq_true rfl)
  rw [lg_entry_eq]
  generalize (lg_sl ([.long a0]) ++ List.replicate (2 - (lg_sl ([.long a0])).length) Slot.unset).toArray = ls at hl ⊢
  have hl : lv_has ls 2 [(0, .long a0)] := hl
  unfold f_M_odd at hF
  refine lv_lload_n hx hb d_M_odd_0 rfl (lv_at hl 0 rfl) ?_
  obtain ⟨r1, e_r1, hF⟩ := Option.bind_eq_some_iff.mp hF
  refine vp_callSl (va_runS (As := [.long a0]) (rest := []) ⟨hx, hb, hml, hown, hts⟩ (k_M_yOf l a0 r1 e_r1) (va_cwS 1 hts (ga_S ww_601 ww_602 ww_4 ww_603) rfl rfl rfl (by decide +kernel) ⟨by decide, by decide⟩) (pcs_pre hN) rfl rfl hl.1 rfl (lv_room (Nat.le_of_ble_eq_true rfl)) d_M_odd_1 ⟨Nat.zero_le _, Nat.zero_le _⟩).run (fun z9 hz9 => ?_)
  obtain rfl : r1 = z9 := hz9.symm
  refine lv_ldc2 (v := 2) hx hb hown (hw _ ww_593) d_M_odd_4 ?_
  refine lv_lrem hx hb d_M_odd_7 (by decide) ?_
  refine lv_lconst (v := 1) hx hb d_M_odd_8 (by decide) ?_
  refine W.lcmp hx hb d_M_odd_9 ?_
  obtain ⟨j2, q4, hF⟩ := Option.bind_eq_some_iff.mp hF
  have z_j2 : j2 = 0 ∨ j2 = 1 := by
    have h := q4
    (repeat' (split at h)) <;> (obtain rfl := Option.some.inj h; first | exact Or.inl rfl | exact Or.inr rfl)
  have k3 : ∀ (ls : Array Slot), lv_has ls 2 [] → W p l e rm_M_odd s m ([Value.long a0] : List Value).toArray below meth c s.heap [] 0 0 (MQ below (vp_Si (fun z => z = r)) ([Value.long a0] : List Value).toArray s 0 0 (fun _ => False)) (F0 m 18 ls [.int j2]) := by
    intro ls hl
    obtain rfl := Option.some.inj hF
    exact W.zret hx hb hr (nz_b z_j2) (fun t ht hW => ⟨_, rfl, rfl, ht⟩) (fun _ h => nomatch h) d_M_odd_18
  clear hF
  have hF := q4
  refine lv_if_ne hx hb d_M_odd_10 (tgt := 17) (by decide) (fun h9 => ?_) (fun h9 => ?_)
  · have hF := (if_neg h9).symm.trans hF
    refine lv_iconst (v := 0) hx hb d_M_odd_17 (by decide) ?_
    obtain rfl := Option.some.inj hF
    exact k3 ls (lv_sub hl [] rfl)
  · have hF := (if_pos h9).symm.trans hF
    refine lv_iconst (v := 1) hx hb d_M_odd_13 (by decide) ?_
    refine lv_goto hx hb d_M_odd_14 (tgt := 18) (by decide) ?_
    obtain rfl := Option.some.inj hF
    exact k3 ls (lv_sub hl [] rfl)
def f_M_lift (a0 : Int64) (a1 : Int32) : Option Int64 := if (lg_cmp a0 0) < 0 then (some ((-1))) else (if (lg_cmp a0 1073735023) < 0 then (Option.bind (some (((((a0 * a0) - (a0 * a0) / 1073735023 * 1073735023) * a0) + 7) - ((((a0 * a0) - (a0 * a0) / 1073735023 * 1073735023) * a0) + 7) / 1073735023 * 1073735023)) (fun v1 => Option.bind (f_M_power v1 268433756 1073735023) (fun r2 => if (lg_cmp ((r2 * r2) - (r2 * r2) / 1073735023 * 1073735023) v1) = 0 then (Option.bind (if (lg_cmp (r2 - r2 / 2 * 2) 1) = 0 then (some (1) : Option (Int32)) else (some (0))) (fun j3 => Option.bind (if j3 = a1 then (some (r2) : Option (Int64)) else (some (1073735023 - r2))) (fun j7 => some ((a0 * 2147483648) + j7)))) else (some ((-1)))))) else (some ((-1))))
abbrev rm_M_lift : Room := { frames := 2, cells := 0, slots := 0, locals := 56 }
set_option maxHeartbeats 4000000 in
set_option maxRecDepth 100000 in
theorem k_M_lift (l : Launch) (a0 : Int64) (a1 : Int32) (r : Int64) (hF : f_M_lift a0 a1 = some r) : Met l y_M_lift (Cond.code y_M_lift b_M_lift 7 (some .long) :: wa) rm_M_lift (pcs [.long a0, .int a1]) (vp_Sl (fun z => z = r)) 0 0 (fun _ => False) := by
  refine Met.ofW (cc := b_M_lift) (maxL := 7) (ret := (some .long)) (by decide) rfl ?_
  intro p e s m args below meth c s₁ B hml hv
  obtain ⟨rfl, hN⟩ := hv
  have hx := B.exec
  have hb := B.bytes
  have hr := B.returns
  have hts := atoms_spec (ws := Cond.code y_M_lift b_M_lift 7 (some .long) :: wa) B.pre
  have hw : ∀ w ∈ wa, w.before _ s = true := fun w h => hts w (List.mem_cons_of_mem _ h)
  have hown : s.vm.findClass R_M = some m.cls := findClass_of_methodNamed B.named
  have hlocks := B.notSynchronized
  have hl := lv_entry ([.long a0, .int a1]) (n := 7) (Nat.le_of_ble_eq_true rfl)
  rw [lg_entry_eq]
  generalize (lg_sl ([.long a0, .int a1]) ++ List.replicate (7 - (lg_sl ([.long a0, .int a1])).length) Slot.unset).toArray = ls at hl ⊢
  have hl : lv_has ls 7 [(0, .long a0), (2, .int a1)] := hl
  unfold f_M_lift at hF
  refine lv_lload_n hx hb d_M_lift_0 rfl (lv_at hl 0 rfl) ?_
  refine lv_lconst (v := 0) hx hb d_M_lift_1 (by decide) ?_
  refine W.lcmp hx hb d_M_lift_2 ?_
  refine lv_if_lt hx hb d_M_lift_3 (tgt := 14) (by decide) (fun h9 => ?_) (fun h9 => ?_)
  · have hF := (if_pos h9).symm.trans hF
    refine lv_ldc2 (v := (-1)) hx hb hown (hw _ ww_533) d_M_lift_14 ?_
    obtain rfl := Option.some.inj hF
    exact W.lret hx hb hr (fun t ht hW => ⟨_, rfl, rfl, ht⟩) (fun _ h => nomatch h) d_M_lift_17
  · have hF := (if_neg h9).symm.trans hF
    refine lv_lload_n hx hb d_M_lift_6 rfl (lv_at hl 0 rfl) ?_
    refine lv_ldc2 (v := 1073735023) hx hb hown (hw _ ww_605) d_M_lift_7 ?_
    refine W.lcmp hx hb d_M_lift_10 ?_
    refine lv_if_lt hx hb d_M_lift_11 (tgt := 18) (by decide) (fun h9 => ?_) (fun h9 => ?_)
    · have hF := (if_pos h9).symm.trans hF
      refine lv_lload_n hx hb d_M_lift_18 rfl (lv_at hl 0 rfl) ?_
      refine lv_lload_n hx hb d_M_lift_19 rfl (lv_at hl 0 rfl) ?_
      refine lv_lmul hx hb d_M_lift_20 ?_
      refine lv_ldc2 (v := 1073735023) hx hb hown (hw _ ww_605) d_M_lift_21 ?_
      refine lv_lrem hx hb d_M_lift_24 (by decide) ?_
      refine lv_lload_n hx hb d_M_lift_25 rfl (lv_at hl 0 rfl) ?_
      refine lv_lmul hx hb d_M_lift_26 ?_
      refine lv_ldc2 (v := 7) hx hb hown (hw _ ww_629) d_M_lift_27 ?_
      refine lv_ladd hx hb d_M_lift_30 ?_
      refine lv_ldc2 (v := 1073735023) hx hb hown (hw _ ww_605) d_M_lift_31 ?_
      refine lv_lrem hx hb d_M_lift_34 (by decide) ?_
      obtain ⟨v1, e_v1, hF⟩ := Option.bind_eq_some_iff.mp hF
      refine nm_l (Option.some.inj e_v1) ?_
      refine lv_lstore_n hx hb d_M_lift_35 rfl hl (by decide) (lv' := [(3, .long v1), (0, .long a0), (2, .int a1)]) rfl (fun ls hl => ?_)
      refine lv_lload_n hx hb d_M_lift_36 rfl (lv_at hl 0 rfl) ?_
      refine lv_ldc2 (v := 268433756) hx hb hown (hw _ ww_630) d_M_lift_37 ?_
      refine lv_ldc2 (v := 1073735023) hx hb hown (hw _ ww_605) d_M_lift_40 ?_
      obtain ⟨r2, e_r2, hF⟩ := Option.bind_eq_some_iff.mp hF
      refine vp_callSl (va_runS (As := [.long v1, .long 268433756, .long 1073735023]) (rest := []) ⟨hx, hb, hml, hown, hts⟩ (k_M_power l v1 268433756 1073735023 r2 e_r2) (va_cwS 3 hts (ga_S ww_612 ww_613 ww_4 ww_614) rfl rfl rfl (by decide +kernel) ⟨by decide, by decide⟩) (pcs_pre hN) rfl rfl hl.1 rfl (lv_room (Nat.le_of_ble_eq_true rfl)) d_M_lift_43 ⟨Nat.zero_le _, Nat.zero_le _⟩).run (fun z9 hz9 => ?_)
      obtain rfl : r2 = z9 := hz9.symm
      refine lv_lstore hx hb d_M_lift_46 hl (by decide) (lv' := [(5, .long r2), (3, .long v1), (0, .long a0), (2, .int a1)]) rfl (fun ls hl => ?_)
      refine lv_lload hx hb d_M_lift_48 (lv_at hl 0 rfl) ?_
      refine lv_lload hx hb d_M_lift_50 (lv_at hl 0 rfl) ?_
      refine lv_lmul hx hb d_M_lift_52 ?_
      refine lv_ldc2 (v := 1073735023) hx hb hown (hw _ ww_605) d_M_lift_53 ?_
      refine lv_lrem hx hb d_M_lift_56 (by decide) ?_
      refine lv_lload_n hx hb d_M_lift_57 rfl (lv_at hl 1 rfl) ?_
      refine W.lcmp hx hb d_M_lift_58 ?_
      refine lv_if_eq hx hb d_M_lift_59 (tgt := 66) (by decide) (fun h9 => ?_) (fun h9 => ?_)
      · have hF := (if_pos h9).symm.trans hF
        refine lv_lload_n hx hb d_M_lift_66 rfl (lv_at hl 2 rfl) ?_
        refine lv_ldc2 (v := 2147483648) hx hb hown (hw _ ww_600) d_M_lift_67 ?_
        refine lv_lmul hx hb d_M_lift_70 ?_
        refine lv_lload hx hb d_M_lift_71 (lv_at hl 0 rfl) ?_
        refine lv_ldc2 (v := 2) hx hb hown (hw _ ww_593) d_M_lift_73 ?_
        refine lv_lrem hx hb d_M_lift_76 (by decide) ?_
        refine lv_lconst (v := 1) hx hb d_M_lift_77 (by decide) ?_
        refine W.lcmp hx hb d_M_lift_78 ?_
        obtain ⟨j3, q5, hF⟩ := Option.bind_eq_some_iff.mp hF
        have z_j3 : j3 = 0 ∨ j3 = 1 := by
          have h := q5
          (repeat' (split at h)) <;> (obtain rfl := Option.some.inj h; first | exact Or.inl rfl | exact Or.inr rfl)
        have k4 : ∀ (ls : Array Slot), lv_has ls 7 [(5, .long r2), (2, .int a1)] → W p l e rm_M_lift s m ([Value.long a0, Value.int a1] : List Value).toArray below meth c s.heap [] 0 0 (MQ below (vp_Sl (fun z => z = r)) ([Value.long a0, Value.int a1] : List Value).toArray s 0 0 (fun _ => False)) (F0 m 87 ls [.int j3, .long (a0 * 2147483648)]) := by
          intro ls hl
          refine lv_iload_n hx hb d_M_lift_87 rfl (lv_at hl 1 rfl) ?_
          obtain ⟨j7, q9, hF⟩ := Option.bind_eq_some_iff.mp hF
          have k8 : ∀ (ls : Array Slot), lv_has ls 7 [] → W p l e rm_M_lift s m ([Value.long a0, Value.int a1] : List Value).toArray below meth c s.heap [] 0 0 (MQ below (vp_Sl (fun z => z = r)) ([Value.long a0, Value.int a1] : List Value).toArray s 0 0 (fun _ => False)) (F0 m 102 ls [.long j7, .long (a0 * 2147483648)]) := by
            intro ls hl
            refine lv_ladd hx hb d_M_lift_102 ?_
            obtain rfl := Option.some.inj hF
            exact W.lret hx hb hr (fun t ht hW => ⟨_, rfl, rfl, ht⟩) (fun _ h => nomatch h) d_M_lift_103
          clear hF
          have hF := q9
          refine lv_icmp_ne hx hb d_M_lift_88 (tgt := 96) (by decide) (fun h9 => ?_) (fun h9 => ?_)
          · have hF := (if_neg h9).symm.trans hF
            refine lv_ldc2 (v := 1073735023) hx hb hown (hw _ ww_605) d_M_lift_96 ?_
            refine lv_lload hx hb d_M_lift_99 (lv_at hl 0 rfl) ?_
            refine lv_lsub hx hb d_M_lift_101 ?_
            obtain rfl := Option.some.inj hF
            exact k8 ls (lv_sub hl [] rfl)
          · have hF := (if_pos h9).symm.trans hF
            refine lv_lload hx hb d_M_lift_91 (lv_at hl 0 rfl) ?_
            refine lv_goto hx hb d_M_lift_93 (tgt := 102) (by decide) ?_
            obtain rfl := Option.some.inj hF
            exact k8 ls (lv_sub hl [] rfl)
        clear hF
        have hF := q5
        refine lv_if_ne hx hb d_M_lift_79 (tgt := 86) (by decide) (fun h9 => ?_) (fun h9 => ?_)
        · have hF := (if_neg h9).symm.trans hF
          refine lv_iconst (v := 0) hx hb d_M_lift_86 (by decide) ?_
          obtain rfl := Option.some.inj hF
          exact k4 ls (lv_sub hl [0, 3] rfl)
        · have hF := (if_pos h9).symm.trans hF
          refine lv_iconst (v := 1) hx hb d_M_lift_82 (by decide) ?_
          refine lv_goto hx hb d_M_lift_83 (tgt := 87) (by decide) ?_
          obtain rfl := Option.some.inj hF
          exact k4 ls (lv_sub hl [0, 3] rfl)
      · have hF := (if_neg h9).symm.trans hF
        refine lv_ldc2 (v := (-1)) hx hb hown (hw _ ww_533) d_M_lift_62 ?_
        obtain rfl := Option.some.inj hF
        exact W.lret hx hb hr (fun t ht hW => ⟨_, rfl, rfl, ht⟩) (fun _ h => nomatch h) d_M_lift_65
    · have hF := (if_neg h9).symm.trans hF
      refine lv_ldc2 (v := (-1)) hx hb hown (hw _ ww_533) d_M_lift_14 ?_
      obtain rfl := Option.some.inj hF
      exact W.lret hx hb hr (fun t ht hW => ⟨_, rfl, rfl, ht⟩) (fun _ h => nomatch h) d_M_lift_17
def f_M_codeOf (a0 : Int64) : Option Int64 := Option.bind (if (lg_cmp a0 (-1)) = 0 then (some (0) : Option (Int64)) else (Option.bind (f_M_yOf a0) (fun r5 => Option.bind (f_M_xOf a0) (fun r6 => some (((2 + (r5 - r5 / 2 * 2)) * 4294967296) + r6))))) (fun j1 => some (j1))
abbrev rm_M_codeOf : Room := { frames := 1, cells := 0, slots := 0, locals := 21 }
set_option maxHeartbeats 4000000 in
set_option maxRecDepth 100000 in
theorem k_M_codeOf (l : Launch) (a0 : Int64) (r : Int64) (hF : f_M_codeOf a0 = some r) : Met l y_M_codeOf (Cond.code y_M_codeOf b_M_codeOf 2 (some .long) :: wa) rm_M_codeOf (pcs [.long a0]) (vp_Sl (fun z => z = r)) 0 0 (fun _ => False) := by
  refine Met.ofW (cc := b_M_codeOf) (maxL := 2) (ret := (some .long)) (by decide) rfl ?_
  intro p e s m args below meth c s₁ B hml hv
  obtain ⟨rfl, hN⟩ := hv
  have hx := B.exec
  have hb := B.bytes
  have hr := B.returns
  have hts := atoms_spec (ws := Cond.code y_M_codeOf b_M_codeOf 2 (some .long) :: wa) B.pre
  have hw : ∀ w ∈ wa, w.before _ s = true := fun w h => hts w (List.mem_cons_of_mem _ h)
  have hown : s.vm.findClass R_M = some m.cls := findClass_of_methodNamed B.named
  have hlocks := B.notSynchronized
  have hl := lv_entry ([.long a0]) (n := 2) (Nat.le_of_ble_eq_true rfl)
  rw [lg_entry_eq]
  generalize (lg_sl ([.long a0]) ++ List.replicate (2 - (lg_sl ([.long a0])).length) Slot.unset).toArray = ls at hl ⊢
  have hl : lv_has ls 2 [(0, .long a0)] := hl
  unfold f_M_codeOf at hF
  refine lv_lload_n hx hb d_M_codeOf_0 rfl (lv_at hl 0 rfl) ?_
  refine lv_ldc2 (v := (-1)) hx hb hown (hw _ ww_533) d_M_codeOf_1 ?_
  refine W.lcmp hx hb d_M_codeOf_4 ?_
  obtain ⟨j1, q3, hF⟩ := Option.bind_eq_some_iff.mp hF
  have k2 : ∀ (ls : Array Slot), lv_has ls 2 [] → W p l e rm_M_codeOf s m ([Value.long a0] : List Value).toArray below meth c s.heap [] 0 0 (MQ below (vp_Sl (fun z => z = r)) ([Value.long a0] : List Value).toArray s 0 0 (fun _ => False)) (F0 m 33 ls [.long j1]) := by
    intro ls hl
    obtain rfl := Option.some.inj hF
    exact W.lret hx hb hr (fun t ht hW => ⟨_, rfl, rfl, ht⟩) (fun _ h => nomatch h) d_M_codeOf_33
  clear hF
  have hF := q3
  refine lv_if_ne hx hb d_M_codeOf_5 (tgt := 12) (by decide) (fun h9 => ?_) (fun h9 => ?_)
  · have hF := (if_neg h9).symm.trans hF
    refine lv_ldc2 (v := 2) hx hb hown (hw _ ww_593) d_M_codeOf_12 ?_
    refine lv_lload_n hx hb d_M_codeOf_15 rfl (lv_at hl 0 rfl) ?_
    obtain ⟨r5, e_r5, hF⟩ := Option.bind_eq_some_iff.mp hF
    refine vp_callSl (va_runS (As := [.long a0]) (rest := [.long 2]) ⟨hx, hb, hml, hown, hts⟩ (k_M_yOf l a0 r5 e_r5) (va_cwS 1 hts (ga_S ww_601 ww_602 ww_4 ww_603) rfl rfl rfl (by decide +kernel) ⟨by decide, by decide⟩) (pcs_pre hN) rfl rfl hl.1 rfl (lv_room (Nat.le_of_ble_eq_true rfl)) d_M_codeOf_16 ⟨Nat.zero_le _, Nat.zero_le _⟩).run (fun z9 hz9 => ?_)
    obtain rfl : r5 = z9 := hz9.symm
    refine lv_ldc2 (v := 2) hx hb hown (hw _ ww_593) d_M_codeOf_19 ?_
    refine lv_lrem hx hb d_M_codeOf_22 (by decide) ?_
    refine lv_ladd hx hb d_M_codeOf_23 ?_
    refine lv_ldc2 (v := 4294967296) hx hb hown (hw _ ww_618) d_M_codeOf_24 ?_
    refine lv_lmul hx hb d_M_codeOf_27 ?_
    refine lv_lload_n hx hb d_M_codeOf_28 rfl (lv_at hl 0 rfl) ?_
    obtain ⟨r6, e_r6, hF⟩ := Option.bind_eq_some_iff.mp hF
    refine vp_callSl (va_runS (As := [.long a0]) (rest := [.long ((2 + (r5 - r5 / 2 * 2)) * 4294967296)]) ⟨hx, hb, hml, hown, hts⟩ (k_M_xOf l a0 r6 e_r6) (va_cwS 1 hts (ga_S ww_597 ww_598 ww_4 ww_599) rfl rfl rfl (by decide +kernel) ⟨by decide, by decide⟩) (pcs_pre hN) rfl rfl hl.1 rfl (lv_room (Nat.le_of_ble_eq_true rfl)) d_M_codeOf_29 ⟨Nat.zero_le _, Nat.zero_le _⟩).run (fun z9 hz9 => ?_)
    obtain rfl : r6 = z9 := hz9.symm
    refine lv_ladd hx hb d_M_codeOf_32 ?_
    obtain rfl := Option.some.inj hF
    exact k2 ls (lv_sub hl [] rfl)
  · have hF := (if_pos h9).symm.trans hF
    refine lv_lconst (v := 0) hx hb d_M_codeOf_8 (by decide) ?_
    refine lv_goto hx hb d_M_codeOf_9 (tgt := 33) (by decide) ?_
    obtain rfl := Option.some.inj hF
    exact k2 ls (lv_sub hl [] rfl)
def f_M_pointOf (a0 : Int64) : Option Int64 := Option.bind (some (a0 >>> ((Int32.toInt64 32) &&& 63))) (fun v1 => Option.bind (if (lg_cmp v1 2) = 0 then (Option.bind (if (lg_cmp v1 3) = 0 then (some (1) : Option (Int32)) else (some (0))) (fun j6 => Option.bind (f_M_lift (a0 - (v1 * 4294967296)) j6) (fun r10 => some (r10))) : Option (Int64)) else (if (lg_cmp v1 3) = 0 then (Option.bind (if (lg_cmp v1 3) = 0 then (some (1) : Option (Int32)) else (some (0))) (fun j11 => Option.bind (f_M_lift (a0 - (v1 * 4294967296)) j11) (fun r15 => some (r15)))) else (some ((-1))))) (fun j2 => some (j2)))
abbrev rm_M_pointOf : Room := { frames := 3, cells := 0, slots := 0, locals := 82 }
set_option maxHeartbeats 4000000 in
set_option maxRecDepth 100000 in
theorem k_M_pointOf (l : Launch) (a0 : Int64) (r : Int64) (hF : f_M_pointOf a0 = some r) : Met l y_M_pointOf (Cond.code y_M_pointOf b_M_pointOf 4 (some .long) :: wa) rm_M_pointOf (pcs [.long a0]) (vp_Sl (fun z => z = r)) 0 0 (fun _ => False) := by
  refine Met.ofW (cc := b_M_pointOf) (maxL := 4) (ret := (some .long)) (by decide) rfl ?_
  intro p e s m args below meth c s₁ B hml hv
  obtain ⟨rfl, hN⟩ := hv
  have hx := B.exec
  have hb := B.bytes
  have hr := B.returns
  have hts := atoms_spec (ws := Cond.code y_M_pointOf b_M_pointOf 4 (some .long) :: wa) B.pre
  have hw : ∀ w ∈ wa, w.before _ s = true := fun w h => hts w (List.mem_cons_of_mem _ h)
  have hown : s.vm.findClass R_M = some m.cls := findClass_of_methodNamed B.named
  have hlocks := B.notSynchronized
  have hl := lv_entry ([.long a0]) (n := 4) (Nat.le_of_ble_eq_true rfl)
  rw [lg_entry_eq]
  generalize (lg_sl ([.long a0]) ++ List.replicate (4 - (lg_sl ([.long a0])).length) Slot.unset).toArray = ls at hl ⊢
  have hl : lv_has ls 4 [(0, .long a0)] := hl
  unfold f_M_pointOf at hF
  refine lv_lload_n hx hb d_M_pointOf_0 rfl (lv_at hl 0 rfl) ?_
  refine lv_bipush (v := 32) hx hb d_M_pointOf_1 (by decide) ?_
  refine lv_lshr (v := a0 >>> ((Int32.toInt64 32) &&& 63)) hx hb d_M_pointOf_3 rfl ?_
  obtain ⟨v1, e_v1, hF⟩ := Option.bind_eq_some_iff.mp hF
  refine nm_l (Option.some.inj e_v1) ?_
  refine lv_lstore_n hx hb d_M_pointOf_4 rfl hl (by decide) (lv' := [(2, .long v1), (0, .long a0)]) rfl (fun ls hl => ?_)
  refine lv_lload_n hx hb d_M_pointOf_5 rfl (lv_at hl 0 rfl) ?_
  refine lv_ldc2 (v := 2) hx hb hown (hw _ ww_593) d_M_pointOf_6 ?_
  refine W.lcmp hx hb d_M_pointOf_9 ?_
  obtain ⟨j2, q4, hF⟩ := Option.bind_eq_some_iff.mp hF
  have k3 : ∀ (ls : Array Slot), lv_has ls 4 [] → W p l e rm_M_pointOf s m ([Value.long a0] : List Value).toArray below meth c s.heap [] 0 0 (MQ below (vp_Sl (fun z => z = r)) ([Value.long a0] : List Value).toArray s 0 0 (fun _ => False)) (F0 m 50 ls [.long j2]) := by
    intro ls hl
    obtain rfl := Option.some.inj hF
    exact W.lret hx hb hr (fun t ht hW => ⟨_, rfl, rfl, ht⟩) (fun _ h => nomatch h) d_M_pointOf_50
  clear hF
  have hF := q4
  refine lv_if_eq hx hb d_M_pointOf_10 (tgt := 21) (by decide) (fun h9 => ?_) (fun h9 => ?_)
  · have hF := (if_pos h9).symm.trans hF
    refine lv_lload_n hx hb d_M_pointOf_21 rfl (lv_at hl 1 rfl) ?_
    refine lv_lload_n hx hb d_M_pointOf_22 rfl (lv_at hl 0 rfl) ?_
    refine lv_ldc2 (v := 4294967296) hx hb hown (hw _ ww_618) d_M_pointOf_23 ?_
    refine lv_lmul hx hb d_M_pointOf_26 ?_
    refine lv_lsub hx hb d_M_pointOf_27 ?_
    refine lv_lload_n hx hb d_M_pointOf_28 rfl (lv_at hl 0 rfl) ?_
    refine lv_ldc2 (v := 3) hx hb hown (hw _ ww_604) d_M_pointOf_29 ?_
    refine W.lcmp hx hb d_M_pointOf_32 ?_
    obtain ⟨j6, q8, hF⟩ := Option.bind_eq_some_iff.mp hF
    have z_j6 : j6 = 0 ∨ j6 = 1 := by
      have h := q8
      (repeat' (split at h)) <;> (obtain rfl := Option.some.inj h; first | exact Or.inl rfl | exact Or.inr rfl)
    have k7 : ∀ (ls : Array Slot), lv_has ls 4 [] → W p l e rm_M_pointOf s m ([Value.long a0] : List Value).toArray below meth c s.heap [] 0 0 (MQ below (vp_Sl (fun z => z = r)) ([Value.long a0] : List Value).toArray s 0 0 (fun _ => False)) (F0 m 41 ls [.int j6, .long (a0 - (v1 * 4294967296))]) := by
      intro ls hl
      obtain ⟨r10, e_r10, hF⟩ := Option.bind_eq_some_iff.mp hF
      refine vp_callSl (va_runS (As := [.long (a0 - (v1 * 4294967296)), .int j6]) (rest := []) ⟨hx, hb, hml, hown, hts⟩ (k_M_lift l (a0 - (v1 * 4294967296)) j6 r10 e_r10) (va_cwS 2 hts (ga_S ww_626 ww_627 ww_4 ww_628) rfl rfl rfl (by decide +kernel) ⟨by decide, by decide⟩) (pcs_pre hN) rfl rfl hl.1 rfl (lv_room (Nat.le_of_ble_eq_true rfl)) d_M_pointOf_41 ⟨Nat.zero_le _, Nat.zero_le _⟩).run (fun z9 hz9 => ?_)
      obtain rfl : r10 = z9 := hz9.symm
      refine lv_goto hx hb d_M_pointOf_44 (tgt := 50) (by decide) ?_
      obtain rfl := Option.some.inj hF
      exact k3 ls (lv_sub hl [] rfl)
    clear hF
    have hF := q8
    refine lv_if_ne hx hb d_M_pointOf_33 (tgt := 40) (by decide) (fun h9 => ?_) (fun h9 => ?_)
    · have hF := (if_neg h9).symm.trans hF
      refine lv_iconst (v := 0) hx hb d_M_pointOf_40 (by decide) ?_
      obtain rfl := Option.some.inj hF
      exact k7 ls (lv_sub hl [] rfl)
    · have hF := (if_pos h9).symm.trans hF
      refine lv_iconst (v := 1) hx hb d_M_pointOf_36 (by decide) ?_
      refine lv_goto hx hb d_M_pointOf_37 (tgt := 41) (by decide) ?_
      obtain rfl := Option.some.inj hF
      exact k7 ls (lv_sub hl [] rfl)
  · have hF := (if_neg h9).symm.trans hF
    refine lv_lload_n hx hb d_M_pointOf_13 rfl (lv_at hl 0 rfl) ?_
    refine lv_ldc2 (v := 3) hx hb hown (hw _ ww_604) d_M_pointOf_14 ?_
    refine W.lcmp hx hb d_M_pointOf_17 ?_
    refine lv_if_ne hx hb d_M_pointOf_18 (tgt := 47) (by decide) (fun h9 => ?_) (fun h9 => ?_)
    · have hF := (if_neg h9).symm.trans hF
      refine lv_ldc2 (v := (-1)) hx hb hown (hw _ ww_533) d_M_pointOf_47 ?_
      obtain rfl := Option.some.inj hF
      exact k3 ls (lv_sub hl [] rfl)
    · have hF := (if_pos h9).symm.trans hF
      refine lv_lload_n hx hb d_M_pointOf_21 rfl (lv_at hl 1 rfl) ?_
      refine lv_lload_n hx hb d_M_pointOf_22 rfl (lv_at hl 0 rfl) ?_
      refine lv_ldc2 (v := 4294967296) hx hb hown (hw _ ww_618) d_M_pointOf_23 ?_
      refine lv_lmul hx hb d_M_pointOf_26 ?_
      refine lv_lsub hx hb d_M_pointOf_27 ?_
      refine lv_lload_n hx hb d_M_pointOf_28 rfl (lv_at hl 0 rfl) ?_
      refine lv_ldc2 (v := 3) hx hb hown (hw _ ww_604) d_M_pointOf_29 ?_
      refine W.lcmp hx hb d_M_pointOf_32 ?_
      obtain ⟨j11, q13, hF⟩ := Option.bind_eq_some_iff.mp hF
      have z_j11 : j11 = 0 ∨ j11 = 1 := by
        have h := q13
        (repeat' (split at h)) <;> (obtain rfl := Option.some.inj h; first | exact Or.inl rfl | exact Or.inr rfl)
      have k12 : ∀ (ls : Array Slot), lv_has ls 4 [] → W p l e rm_M_pointOf s m ([Value.long a0] : List Value).toArray below meth c s.heap [] 0 0 (MQ below (vp_Sl (fun z => z = r)) ([Value.long a0] : List Value).toArray s 0 0 (fun _ => False)) (F0 m 41 ls [.int j11, .long (a0 - (v1 * 4294967296))]) := by
        intro ls hl
        obtain ⟨r15, e_r15, hF⟩ := Option.bind_eq_some_iff.mp hF
        refine vp_callSl (va_runS (As := [.long (a0 - (v1 * 4294967296)), .int j11]) (rest := []) ⟨hx, hb, hml, hown, hts⟩ (k_M_lift l (a0 - (v1 * 4294967296)) j11 r15 e_r15) (va_cwS 2 hts (ga_S ww_626 ww_627 ww_4 ww_628) rfl rfl rfl (by decide +kernel) ⟨by decide, by decide⟩) (pcs_pre hN) rfl rfl hl.1 rfl (lv_room (Nat.le_of_ble_eq_true rfl)) d_M_pointOf_41 ⟨Nat.zero_le _, Nat.zero_le _⟩).run (fun z9 hz9 => ?_)
        obtain rfl : r15 = z9 := hz9.symm
        refine lv_goto hx hb d_M_pointOf_44 (tgt := 50) (by decide) ?_
        obtain rfl := Option.some.inj hF
        exact k3 ls (lv_sub hl [] rfl)
      clear hF
      have hF := q13
      refine lv_if_ne hx hb d_M_pointOf_33 (tgt := 40) (by decide) (fun h9 => ?_) (fun h9 => ?_)
      · have hF := (if_neg h9).symm.trans hF
        refine lv_iconst (v := 0) hx hb d_M_pointOf_40 (by decide) ?_
        obtain rfl := Option.some.inj hF
        exact k12 ls (lv_sub hl [] rfl)
      · have hF := (if_pos h9).symm.trans hF
        refine lv_iconst (v := 1) hx hb d_M_pointOf_36 (by decide) ?_
        refine lv_goto hx hb d_M_pointOf_37 (tgt := 41) (by decide) ?_
        obtain rfl := Option.some.inj hF
        exact k12 ls (lv_sub hl [] rfl)
def f_M_isSlot (a0 : Int32) : Option Int32 := Option.bind (if a0 < 0 then (some (0) : Option (Int32)) else (if 5 < a0 then (some (0)) else (some (1)))) (fun j1 => some (j1))
abbrev rm_M_isSlot : Room := { frames := 0, cells := 0, slots := 0, locals := 0 }
set_option maxHeartbeats 4000000 in
set_option maxRecDepth 100000 in
theorem k_M_isSlot (l : Launch) (a0 : Int32) (r : Int32) (hF : f_M_isSlot a0 = some r) : Met l y_M_isSlot (Cond.code y_M_isSlot b_M_isSlot 1 (some .boolean) :: wa) rm_M_isSlot (pcs [.int a0]) (vp_Si (fun z => z = r)) 0 0 (fun _ => False) := by
  refine Met.ofW (cc := b_M_isSlot) (maxL := 1) (ret := (some .boolean)) (by decide) rfl ?_
  intro p e s m args below meth c s₁ B hml hv
  obtain ⟨rfl, hN⟩ := hv
  have hx := B.exec
  have hb := B.bytes
  have hr := B.returns
  have hts := atoms_spec (ws := Cond.code y_M_isSlot b_M_isSlot 1 (some .boolean) :: wa) B.pre
  have hw : ∀ w ∈ wa, w.before _ s = true := fun w h => hts w (List.mem_cons_of_mem _ h)
  have hown : s.vm.findClass R_M = some m.cls := findClass_of_methodNamed B.named
  have hlocks := B.notSynchronized
  have hl := lv_entry ([.int a0]) (n := 1) (Nat.le_of_ble_eq_true rfl)
  rw [lg_entry_eq]
  generalize (lg_sl ([.int a0]) ++ List.replicate (1 - (lg_sl ([.int a0])).length) Slot.unset).toArray = ls at hl ⊢
  have hl : lv_has ls 1 [(0, .int a0)] := hl
  unfold f_M_isSlot at hF
  refine lv_iload_n hx hb d_M_isSlot_0 rfl (lv_at hl 0 rfl) ?_
  obtain ⟨j1, q3, hF⟩ := Option.bind_eq_some_iff.mp hF
  have z_j1 : j1 = 0 ∨ j1 = 1 := by
    have h := q3
    (repeat' (split at h)) <;> (obtain rfl := Option.some.inj h; first | exact Or.inl rfl | exact Or.inr rfl)
  have k2 : ∀ (ls : Array Slot), lv_has ls 1 [] → W p l e rm_M_isSlot s m ([Value.int a0] : List Value).toArray below meth c s.heap [] 0 0 (MQ below (vp_Si (fun z => z = r)) ([Value.int a0] : List Value).toArray s 0 0 (fun _ => False)) (F0 m 14 ls [.int j1]) := by
    intro ls hl
    obtain rfl := Option.some.inj hF
    exact W.zret hx hb hr (nz_b z_j1) (fun t ht hW => ⟨_, rfl, rfl, ht⟩) (fun _ h => nomatch h) d_M_isSlot_14
  clear hF
  have hF := q3
  refine lv_if_lt hx hb d_M_isSlot_1 (tgt := 13) (by decide) (fun h9 => ?_) (fun h9 => ?_)
  · have hF := (if_pos h9).symm.trans hF
    refine lv_iconst (v := 0) hx hb d_M_isSlot_13 (by decide) ?_
    obtain rfl := Option.some.inj hF
    exact k2 ls (lv_sub hl [] rfl)
  · have hF := (if_neg h9).symm.trans hF
    refine lv_iload_n hx hb d_M_isSlot_4 rfl (lv_at hl 0 rfl) ?_
    refine lv_iconst (v := 5) hx hb d_M_isSlot_5 (by decide) ?_
    refine lv_icmp_gt hx hb d_M_isSlot_6 (tgt := 13) (by decide) (fun h9 => ?_) (fun h9 => ?_)
    · have hF := (if_pos h9).symm.trans hF
      refine lv_iconst (v := 0) hx hb d_M_isSlot_13 (by decide) ?_
      obtain rfl := Option.some.inj hF
      exact k2 ls (lv_sub hl [] rfl)
    · have hF := (if_neg h9).symm.trans hF
      refine lv_iconst (v := 1) hx hb d_M_isSlot_9 (by decide) ?_
      refine lv_goto hx hb d_M_isSlot_10 (tgt := 14) (by decide) ?_
      obtain rfl := Option.some.inj hF
      exact k2 ls (lv_sub hl [] rfl)
def f_M_isScalar (a0 : Int32) : Option Int32 := Option.bind (if a0 < 0 then (some (0) : Option (Int32)) else (if 0 ≤ (lg_cmp (Int32.toInt64 a0) 1073729077) then (some (0)) else (some (1)))) (fun j1 => some (j1))
abbrev rm_M_isScalar : Room := { frames := 0, cells := 0, slots := 0, locals := 0 }
set_option maxHeartbeats 4000000 in
set_option maxRecDepth 100000 in
theorem k_M_isScalar (l : Launch) (a0 : Int32) (r : Int32) (hF : f_M_isScalar a0 = some r) : Met l y_M_isScalar (Cond.code y_M_isScalar b_M_isScalar 1 (some .boolean) :: wa) rm_M_isScalar (pcs [.int a0]) (vp_Si (fun z => z = r)) 0 0 (fun _ => False) := by
  refine Met.ofW (cc := b_M_isScalar) (maxL := 1) (ret := (some .boolean)) (by decide) rfl ?_
  intro p e s m args below meth c s₁ B hml hv
  obtain ⟨rfl, hN⟩ := hv
  have hx := B.exec
  have hb := B.bytes
  have hr := B.returns
  have hts := atoms_spec (ws := Cond.code y_M_isScalar b_M_isScalar 1 (some .boolean) :: wa) B.pre
  have hw : ∀ w ∈ wa, w.before _ s = true := fun w h => hts w (List.mem_cons_of_mem _ h)
  have hown : s.vm.findClass R_M = some m.cls := findClass_of_methodNamed B.named
  have hlocks := B.notSynchronized
  have hl := lv_entry ([.int a0]) (n := 1) (Nat.le_of_ble_eq_true rfl)
  rw [lg_entry_eq]
  generalize (lg_sl ([.int a0]) ++ List.replicate (1 - (lg_sl ([.int a0])).length) Slot.unset).toArray = ls at hl ⊢
  have hl : lv_has ls 1 [(0, .int a0)] := hl
  unfold f_M_isScalar at hF
  refine lv_iload_n hx hb d_M_isScalar_0 rfl (lv_at hl 0 rfl) ?_
  obtain ⟨j1, q3, hF⟩ := Option.bind_eq_some_iff.mp hF
  have z_j1 : j1 = 0 ∨ j1 = 1 := by
    have h := q3
    (repeat' (split at h)) <;> (obtain rfl := Option.some.inj h; first | exact Or.inl rfl | exact Or.inr rfl)
  have k2 : ∀ (ls : Array Slot), lv_has ls 1 [] → W p l e rm_M_isScalar s m ([Value.int a0] : List Value).toArray below meth c s.heap [] 0 0 (MQ below (vp_Si (fun z => z = r)) ([Value.int a0] : List Value).toArray s 0 0 (fun _ => False)) (F0 m 18 ls [.int j1]) := by
    intro ls hl
    obtain rfl := Option.some.inj hF
    exact W.zret hx hb hr (nz_b z_j1) (fun t ht hW => ⟨_, rfl, rfl, ht⟩) (fun _ h => nomatch h) d_M_isScalar_18
  clear hF
  have hF := q3
  refine lv_if_lt hx hb d_M_isScalar_1 (tgt := 17) (by decide) (fun h9 => ?_) (fun h9 => ?_)
  · have hF := (if_pos h9).symm.trans hF
    refine lv_iconst (v := 0) hx hb d_M_isScalar_17 (by decide) ?_
    obtain rfl := Option.some.inj hF
    exact k2 ls (lv_sub hl [] rfl)
  · have hF := (if_neg h9).symm.trans hF
    refine lv_iload_n hx hb d_M_isScalar_4 rfl (lv_at hl 0 rfl) ?_
    refine lv_i2l (v := Int32.toInt64 a0) hx hb d_M_isScalar_5 rfl ?_
    refine lv_ldc2 (v := 1073729077) hx hb hown (hw _ ww_585) d_M_isScalar_6 ?_
    refine W.lcmp hx hb d_M_isScalar_9 ?_
    refine lv_if_ge hx hb d_M_isScalar_10 (tgt := 17) (by decide) (fun h9 => ?_) (fun h9 => ?_)
    · have hF := (if_pos h9).symm.trans hF
      refine lv_iconst (v := 0) hx hb d_M_isScalar_17 (by decide) ?_
      obtain rfl := Option.some.inj hF
      exact k2 ls (lv_sub hl [] rfl)
    · have hF := (if_neg h9).symm.trans hF
      refine lv_iconst (v := 1) hx hb d_M_isScalar_13 (by decide) ?_
      refine lv_goto hx hb d_M_isScalar_14 (tgt := 18) (by decide) ?_
      obtain rfl := Option.some.inj hF
      exact k2 ls (lv_sub hl [] rfl)
def f_M_challenge (a0 : Int64) (a1 : Int64) (a2 : Int64) : Option Int64 := Option.bind (f_M_h ((a0 * 4294967296) + a1) 29) (fun r1 => Option.bind (f_M_h r1 a2) (fun r2 => some (((Int64.toUInt64 r2 >>> ((Int32.toInt64 33).toUInt64 &&& Int64.toUInt64 63)).toInt64) - ((Int64.toUInt64 r2 >>> ((Int32.toInt64 33).toUInt64 &&& Int64.toUInt64 63)).toInt64) / 1073729077 * 1073729077)))
abbrev rm_M_challenge : Room := { frames := 1, cells := 0, slots := 0, locals := 25 }
set_option maxHeartbeats 4000000 in
set_option maxRecDepth 100000 in
theorem k_M_challenge (l : Launch) (a0 : Int64) (a1 : Int64) (a2 : Int64) (r : Int64) (hF : f_M_challenge a0 a1 a2 = some r) : Met l y_M_challenge (Cond.code y_M_challenge b_M_challenge 6 (some .long) :: wa) rm_M_challenge (pcs [.long a0, .long a1, .long a2]) (vp_Sl (fun z => z = r)) 0 0 (fun _ => False) := by
  refine Met.ofW (cc := b_M_challenge) (maxL := 6) (ret := (some .long)) (by decide) rfl ?_
  intro p e s m args below meth c s₁ B hml hv
  obtain ⟨rfl, hN⟩ := hv
  have hx := B.exec
  have hb := B.bytes
  have hr := B.returns
  have hts := atoms_spec (ws := Cond.code y_M_challenge b_M_challenge 6 (some .long) :: wa) B.pre
  have hw : ∀ w ∈ wa, w.before _ s = true := fun w h => hts w (List.mem_cons_of_mem _ h)
  have hown : s.vm.findClass R_M = some m.cls := findClass_of_methodNamed B.named
  have hlocks := B.notSynchronized
  have hl := lv_entry ([.long a0, .long a1, .long a2]) (n := 6) (Nat.le_of_ble_eq_true rfl)
  rw [lg_entry_eq]
  generalize (lg_sl ([.long a0, .long a1, .long a2]) ++ List.replicate (6 - (lg_sl ([.long a0, .long a1, .long a2])).length) Slot.unset).toArray = ls at hl ⊢
  have hl : lv_has ls 6 [(0, .long a0), (2, .long a1), (4, .long a2)] := hl
  unfold f_M_challenge at hF
  refine lv_lload_n hx hb d_M_challenge_0 rfl (lv_at hl 0 rfl) ?_
  refine lv_ldc2 (v := 4294967296) hx hb hown (hw _ ww_618) d_M_challenge_1 ?_
  refine lv_lmul hx hb d_M_challenge_4 ?_
  refine lv_lload_n hx hb d_M_challenge_5 rfl (lv_at hl 1 rfl) ?_
  refine lv_ladd hx hb d_M_challenge_6 ?_
  refine lv_ldc2 (v := 29) hx hb hown (hw _ ww_708) d_M_challenge_7 ?_
  obtain ⟨r1, e_r1, hF⟩ := Option.bind_eq_some_iff.mp hF
  refine vp_callSl (va_runS (As := [.long ((a0 * 4294967296) + a1), .long 29]) (rest := []) ⟨hx, hb, hml, hown, hts⟩ (k_M_h l ((a0 * 4294967296) + a1) 29 r1 e_r1) (va_cwS 2 hts (ga_S ww_674 ww_675 ww_4 ww_676) rfl rfl rfl (by decide +kernel) ⟨by decide, by decide⟩) (pcs_pre hN) rfl rfl hl.1 rfl (lv_room (Nat.le_of_ble_eq_true rfl)) d_M_challenge_10 ⟨Nat.zero_le _, Nat.zero_le _⟩).run (fun z9 hz9 => ?_)
  obtain rfl : r1 = z9 := hz9.symm
  refine lv_lload hx hb d_M_challenge_13 (lv_at hl 2 rfl) ?_
  obtain ⟨r2, e_r2, hF⟩ := Option.bind_eq_some_iff.mp hF
  refine vp_callSl (va_runS (As := [.long r1, .long a2]) (rest := []) ⟨hx, hb, hml, hown, hts⟩ (k_M_h l r1 a2 r2 e_r2) (va_cwS 2 hts (ga_S ww_674 ww_675 ww_4 ww_676) rfl rfl rfl (by decide +kernel) ⟨by decide, by decide⟩) (pcs_pre hN) rfl rfl hl.1 rfl (lv_room (Nat.le_of_ble_eq_true rfl)) d_M_challenge_15 ⟨Nat.zero_le _, Nat.zero_le _⟩).run (fun z9 hz9 => ?_)
  obtain rfl : r2 = z9 := hz9.symm
  refine lv_bipush (v := 33) hx hb d_M_challenge_18 (by decide) ?_
  refine lv_lushr (v := (Int64.toUInt64 r2 >>> ((Int32.toInt64 33).toUInt64 &&& Int64.toUInt64 63)).toInt64) hx hb d_M_challenge_20 rfl ?_
  refine lv_ldc2 (v := 1073729077) hx hb hown (hw _ ww_585) d_M_challenge_21 ?_
  refine lv_lrem hx hb d_M_challenge_24 (by decide) ?_
  obtain rfl := Option.some.inj hF
  exact W.lret hx hb hr (fun t ht hW => ⟨_, rfl, rfl, ht⟩) (fun _ h => nomatch h) d_M_challenge_25
def f_M_bytesOf (a0 : Int32) : Option Int32 := Option.bind (if 128 ≤ a0 then (if 32768 ≤ a0 then (if 8388608 ≤ a0 then (some (4)) else (some (3))) else (some (2)) : Option (Int32)) else (some (1))) (fun j1 => some (j1))
abbrev rm_M_bytesOf : Room := { frames := 0, cells := 0, slots := 0, locals := 0 }
set_option maxHeartbeats 4000000 in
set_option maxRecDepth 100000 in
theorem k_M_bytesOf (l : Launch) (a0 : Int32) (r : Int32) (hF : f_M_bytesOf a0 = some r) : Met l y_M_bytesOf (Cond.code y_M_bytesOf b_M_bytesOf 1 (some .int) :: wa) rm_M_bytesOf (pcs [.int a0]) (vp_Si (fun z => z = r)) 0 0 (fun _ => False) := by
  refine Met.ofW (cc := b_M_bytesOf) (maxL := 1) (ret := (some .int)) (by decide) rfl ?_
  intro p e s m args below meth c s₁ B hml hv
  obtain ⟨rfl, hN⟩ := hv
  have hx := B.exec
  have hb := B.bytes
  have hr := B.returns
  have hts := atoms_spec (ws := Cond.code y_M_bytesOf b_M_bytesOf 1 (some .int) :: wa) B.pre
  have hw : ∀ w ∈ wa, w.before _ s = true := fun w h => hts w (List.mem_cons_of_mem _ h)
  have hown : s.vm.findClass R_M = some m.cls := findClass_of_methodNamed B.named
  have hlocks := B.notSynchronized
  have hl := lv_entry ([.int a0]) (n := 1) (Nat.le_of_ble_eq_true rfl)
  rw [lg_entry_eq]
  generalize (lg_sl ([.int a0]) ++ List.replicate (1 - (lg_sl ([.int a0])).length) Slot.unset).toArray = ls at hl ⊢
  have hl : lv_has ls 1 [(0, .int a0)] := hl
  unfold f_M_bytesOf at hF
  refine lv_iload_n hx hb d_M_bytesOf_0 rfl (lv_at hl 0 rfl) ?_
  refine lv_sipush (v := 128) hx hb d_M_bytesOf_1 (by decide) ?_
  obtain ⟨j1, q3, hF⟩ := Option.bind_eq_some_iff.mp hF
  have k2 : ∀ (ls : Array Slot), lv_has ls 1 [] → W p l e rm_M_bytesOf s m ([Value.int a0] : List Value).toArray below meth c s.heap [] 0 0 (MQ below (vp_Si (fun z => z = r)) ([Value.int a0] : List Value).toArray s 0 0 (fun _ => False)) (F0 m 32 ls [.int j1]) := by
    intro ls hl
    obtain rfl := Option.some.inj hF
    exact W.iret hx hb hr (fun t ht hW => ⟨_, rfl, rfl, ht⟩) (fun _ h => nomatch h) d_M_bytesOf_32
  clear hF
  have hF := q3
  refine lv_icmp_ge hx hb d_M_bytesOf_4 (tgt := 11) (by decide) (fun h9 => ?_) (fun h9 => ?_)
  · have hF := (if_pos h9).symm.trans hF
    refine lv_iload_n hx hb d_M_bytesOf_11 rfl (lv_at hl 0 rfl) ?_
    refine lv_ldc (v := 32768) hx hb hown (hw _ ww_741) d_M_bytesOf_12 ?_
    refine lv_icmp_ge hx hb d_M_bytesOf_14 (tgt := 21) (by decide) (fun h9 => ?_) (fun h9 => ?_)
    · have hF := (if_pos h9).symm.trans hF
      refine lv_iload_n hx hb d_M_bytesOf_21 rfl (lv_at hl 0 rfl) ?_
      refine lv_ldc (v := 8388608) hx hb hown (hw _ ww_742) d_M_bytesOf_22 ?_
      refine lv_icmp_ge hx hb d_M_bytesOf_24 (tgt := 31) (by decide) (fun h9 => ?_) (fun h9 => ?_)
      · have hF := (if_pos h9).symm.trans hF
        refine lv_iconst (v := 4) hx hb d_M_bytesOf_31 (by decide) ?_
        obtain rfl := Option.some.inj hF
        exact k2 ls (lv_sub hl [] rfl)
      · have hF := (if_neg h9).symm.trans hF
        refine lv_iconst (v := 3) hx hb d_M_bytesOf_27 (by decide) ?_
        refine lv_goto hx hb d_M_bytesOf_28 (tgt := 32) (by decide) ?_
        obtain rfl := Option.some.inj hF
        exact k2 ls (lv_sub hl [] rfl)
    · have hF := (if_neg h9).symm.trans hF
      refine lv_iconst (v := 2) hx hb d_M_bytesOf_17 (by decide) ?_
      refine lv_goto hx hb d_M_bytesOf_18 (tgt := 32) (by decide) ?_
      obtain rfl := Option.some.inj hF
      exact k2 ls (lv_sub hl [] rfl)
  · have hF := (if_neg h9).symm.trans hF
    refine lv_iconst (v := 1) hx hb d_M_bytesOf_7 (by decide) ?_
    refine lv_goto hx hb d_M_bytesOf_8 (tgt := 32) (by decide) ?_
    obtain rfl := Option.some.inj hF
    exact k2 ls (lv_sub hl [] rfl)
end
section
/-! The cells of the class and of the reference, and what a state of them is. -/
def T_I : u_T := fun k => match k with
  | 0 => ("EvenCurveKeys$Items", "evens", "[J", true)
  | 1 => ("EvenCurveKeys$Items", "messages", "[J", true)
  | 2 => ("EvenCurveKeys$Items", "rxs", "[I", true)
  | 3 => ("EvenCurveKeys$Items", "ss", "[I", true)
  | _ => ("EvenCurveKeys$Items", "count", "I", false)
def ft_I : Nat → FieldType := fun k => match k with
  | 0 => .array .long
  | 1 => .array .long
  | 2 => .array .int
  | 3 => .array .int
  | _ => .int
theorem fn_I : ∀ a, a < 5 → ∀ b, b < 5 → a ≠ b → (T_I a).2.1 ≠ (T_I b).2.1 := by decide +kernel
theorem ft_I_ok : ∀ k, k < 5 → parseFieldDescriptor (T_I k).2.2.1 = some (ft_I k) := by decide +kernel
theorem in_I0 : ∀ w ∈ u_ws R_I T_I 5, w ∈ lw_tbl := by decide +kernel
theorem in_I1 : ∀ w ∈ u_ws R_I T_I 5, goodWord w = true := by decide +kernel
theorem in_I {c0 : Cond} : ∀ w ∈ u_ws R_I T_I 5, w ∈ c0 :: wa := fun w h => List.mem_cons_of_mem _ (List.mem_filter.mpr ⟨in_I0 w h, in_I1 w h⟩)
def T_T : u_T := fun k => match k with
  | 0 => ("EvenCurveKeys$Typed", "bytes", "[I", true)
  | _ => ("EvenCurveKeys$Typed", "count", "I", false)
def ft_T : Nat → FieldType := fun k => match k with
  | 0 => .array .int
  | _ => .int
theorem fn_T : ∀ a, a < 2 → ∀ b, b < 2 → a ≠ b → (T_T a).2.1 ≠ (T_T b).2.1 := by decide +kernel
theorem ft_T_ok : ∀ k, k < 2 → parseFieldDescriptor (T_T k).2.2.1 = some (ft_T k) := by decide +kernel
theorem in_T0 : ∀ w ∈ u_ws R_T T_T 2, w ∈ lw_tbl := by decide +kernel
theorem in_T1 : ∀ w ∈ u_ws R_T T_T 2, goodWord w = true := by decide +kernel
theorem in_T {c0 : Cond} : ∀ w ∈ u_ws R_T T_T 2, w ∈ c0 :: wa := fun w h => List.mem_cons_of_mem _ (List.mem_filter.mpr ⟨in_T0 w h, in_T1 w h⟩)
def T_K : u_T := fun k => match k with
  | 0 => ("EvenCurveKeys", "points", "[J", true)
  | 1 => ("EvenCurveKeys", "secrets", "[J", true)
  | 2 => ("EvenCurveKeys", "items", "LEvenCurveKeys$Items;", true)
  | 3 => ("EvenCurveKeys", "typed", "LEvenCurveKeys$Typed;", true)
  | _ => ("EvenCurveKeys", "lastMark", "I", false)
def ft_K : Nat → FieldType := fun k => match k with
  | 0 => .array .long
  | 1 => .array .long
  | 2 => .object "EvenCurveKeys$Items"
  | 3 => .object "EvenCurveKeys$Typed"
  | _ => .int
theorem fn_K : ∀ a, a < 5 → ∀ b, b < 5 → a ≠ b → (T_K a).2.1 ≠ (T_K b).2.1 := by decide +kernel
theorem ft_K_ok : ∀ k, k < 5 → parseFieldDescriptor (T_K k).2.2.1 = some (ft_K k) := by decide +kernel
theorem in_K0 : ∀ w ∈ u_ws R_K T_K 5, w ∈ lw_tbl := by decide +kernel
theorem in_K1 : ∀ w ∈ u_ws R_K T_K 5, goodWord w = true := by decide +kernel
theorem in_K {c0 : Cond} : ∀ w ∈ u_ws R_K T_K 5, w ∈ c0 :: wa := fun w h => List.mem_cons_of_mem _ (List.mem_filter.mpr ⟨in_K0 w h, in_K1 w h⟩)
def T_M : u_T := fun k => match k with
  | 0 => ("EvenCurveKeysModel", "thrown", "I", false)
  | 1 => ("EvenCurveKeysModel", "points", "[J", true)
  | 2 => ("EvenCurveKeysModel", "secrets", "[J", true)
  | 3 => ("EvenCurveKeysModel", "lastMark", "I", false)
  | 4 => ("EvenCurveKeysModel", "items", "I", false)
  | 5 => ("EvenCurveKeysModel", "itemX", "[J", true)
  | 6 => ("EvenCurveKeysModel", "itemMessage", "[J", true)
  | 7 => ("EvenCurveKeysModel", "itemRx", "[I", true)
  | 8 => ("EvenCurveKeysModel", "itemS", "[I", true)
  | 9 => ("EvenCurveKeysModel", "typed", "I", false)
  | 10 => ("EvenCurveKeysModel", "bytes", "[I", true)
  | 11 => ("EvenCurveKeysModel", "formSize", "I", false)
  | _ => ("EvenCurveKeysModel", "form", "[I", true)
def ft_M : Nat → FieldType := fun k => match k with
  | 0 => .int
  | 1 => .array .long
  | 2 => .array .long
  | 3 => .int
  | 4 => .int
  | 5 => .array .long
  | 6 => .array .long
  | 7 => .array .int
  | 8 => .array .int
  | 9 => .int
  | 10 => .array .int
  | 11 => .int
  | _ => .array .int
theorem fn_M : ∀ a, a < 13 → ∀ b, b < 13 → a ≠ b → (T_M a).2.1 ≠ (T_M b).2.1 := by decide +kernel
theorem ft_M_ok : ∀ k, k < 13 → parseFieldDescriptor (T_M k).2.2.1 = some (ft_M k) := by decide +kernel
theorem in_M0 : ∀ w ∈ u_ws R_M T_M 13, w ∈ lw_tbl := by decide +kernel
theorem in_M1 : ∀ w ∈ u_ws R_M T_M 13, goodWord w = true := by decide +kernel
theorem in_M {c0 : Cond} : ∀ w ∈ u_ws R_M T_M 13, w ∈ c0 :: wa := fun w h => List.mem_cons_of_mem _ (List.mem_filter.mpr ⟨in_M0 w h, in_M1 w h⟩)
abbrev vwC : List vw_C := [(R_I, T_I, 5), (R_T, T_T, 2), (R_K, T_K, 5), (R_M, T_M, 13)]
theorem wp_0 : Cond.selects "EvenCurveKeys$Typed" ({ cls := "EvenCurveKeys$Typed", name := "sizeAt", desc := "(I)I" } : Jvm.MethodName) ({ cls := "EvenCurveKeys$Typed", name := "sizeAt", desc := "(I)I" } : Jvm.MethodName) ∈ wa := List.mem_filter.mpr ⟨List.mem_append_left _ (List.mem_of_getElem? (i := 0) (by decide +kernel)), rfl⟩
theorem wp_1 : Cond.selects "EvenCurveKeys$Typed" ({ cls := "EvenCurveKeys$Typed", name := "numberAt", desc := "(I)I" } : Jvm.MethodName) ({ cls := "EvenCurveKeys$Typed", name := "numberAt", desc := "(I)I" } : Jvm.MethodName) ∈ wa := List.mem_filter.mpr ⟨List.mem_append_left _ (List.mem_of_getElem? (i := 1) (by decide +kernel)), rfl⟩
theorem wp_2 : Cond.selects "EvenCurveKeys$Typed" ({ cls := "EvenCurveKeys$Typed", name := "areFormOf", desc := "(II)Z" } : Jvm.MethodName) ({ cls := "EvenCurveKeys$Typed", name := "areFormOf", desc := "(II)Z" } : Jvm.MethodName) ∈ wa := List.mem_filter.mpr ⟨List.mem_append_left _ (List.mem_of_getElem? (i := 2) (by decide +kernel)), rfl⟩
theorem wp_4 : Cond.selects "EvenCurveKeys" ({ cls := "EvenCurveKeys", name := "fill", desc := "(IJJ)J" } : Jvm.MethodName) ({ cls := "EvenCurveKeys", name := "fill", desc := "(IJJ)J" } : Jvm.MethodName) ∈ wa := List.mem_filter.mpr ⟨List.mem_append_left _ (List.mem_of_getElem? (i := 4) (by decide +kernel)), rfl⟩
theorem wp_5 : Cond.selects "EvenCurveKeys" ({ cls := "EvenCurveKeys", name := "pointOf", desc := "(I)J" } : Jvm.MethodName) ({ cls := "EvenCurveKeys", name := "pointOf", desc := "(I)J" } : Jvm.MethodName) ∈ wa := List.mem_filter.mpr ⟨List.mem_append_left _ (List.mem_of_getElem? (i := 5) (by decide +kernel)), rfl⟩
theorem wp_6 : Cond.selects "EvenCurveKeys" ({ cls := "EvenCurveKeys", name := "secretOf", desc := "(I)J" } : Jvm.MethodName) ({ cls := "EvenCurveKeys", name := "secretOf", desc := "(I)J" } : Jvm.MethodName) ∈ wa := List.mem_filter.mpr ⟨List.mem_append_left _ (List.mem_of_getElem? (i := 6) (by decide +kernel)), rfl⟩
theorem wp_7 : Cond.selects "EvenCurveKeysModel" ({ cls := "EvenCurveKeysModel", name := "lay", desc := "(IJ)V" } : Jvm.MethodName) ({ cls := "EvenCurveKeysModel", name := "lay", desc := "(IJ)V" } : Jvm.MethodName) ∈ wa := List.mem_filter.mpr ⟨List.mem_append_left _ (List.mem_of_getElem? (i := 7) (by decide +kernel)), rfl⟩
theorem wp_8 : Cond.selects "EvenCurveKeysModel" ({ cls := "EvenCurveKeysModel", name := "full", desc := "(I)Z" } : Jvm.MethodName) ({ cls := "EvenCurveKeysModel", name := "full", desc := "(I)Z" } : Jvm.MethodName) ∈ wa := List.mem_filter.mpr ⟨List.mem_append_left _ (List.mem_of_getElem? (i := 8) (by decide +kernel)), rfl⟩
theorem wp_9 : Cond.selects "EvenCurveKeysModel" ({ cls := "EvenCurveKeysModel", name := "noSecret", desc := "(I)I" } : Jvm.MethodName) ({ cls := "EvenCurveKeysModel", name := "noSecret", desc := "(I)I" } : Jvm.MethodName) ∈ wa := List.mem_filter.mpr ⟨List.mem_append_left _ (List.mem_of_getElem? (i := 9) (by decide +kernel)), rfl⟩
theorem wp_10 : Cond.selects "EvenCurveKeysModel" ({ cls := "EvenCurveKeysModel", name := "noPoint", desc := "(I)I" } : Jvm.MethodName) ({ cls := "EvenCurveKeysModel", name := "noPoint", desc := "(I)I" } : Jvm.MethodName) ∈ wa := List.mem_filter.mpr ⟨List.mem_append_left _ (List.mem_of_getElem? (i := 10) (by decide +kernel)), rfl⟩
theorem wp_11 : Cond.selects "EvenCurveKeysModel" ({ cls := "EvenCurveKeysModel", name := "layForm", desc := "(II)V" } : Jvm.MethodName) ({ cls := "EvenCurveKeysModel", name := "layForm", desc := "(II)V" } : Jvm.MethodName) ∈ wa := List.mem_filter.mpr ⟨List.mem_append_left _ (List.mem_of_getElem? (i := 11) (by decide +kernel)), rfl⟩
theorem wp_12 : Cond.selects "EvenCurveKeysModel" ({ cls := "EvenCurveKeysModel", name := "layByte", desc := "(I)V" } : Jvm.MethodName) ({ cls := "EvenCurveKeysModel", name := "layByte", desc := "(I)V" } : Jvm.MethodName) ∈ wa := List.mem_filter.mpr ⟨List.mem_append_left _ (List.mem_of_getElem? (i := 12) (by decide +kernel)), rfl⟩
theorem wp_13 : Cond.selects "EvenCurveKeysModel" ({ cls := "EvenCurveKeysModel", name := "layNumber", desc := "(I)V" } : Jvm.MethodName) ({ cls := "EvenCurveKeysModel", name := "layNumber", desc := "(I)V" } : Jvm.MethodName) ∈ wa := List.mem_filter.mpr ⟨List.mem_append_left _ (List.mem_of_getElem? (i := 13) (by decide +kernel)), rfl⟩
theorem wp_14 : Cond.selects "EvenCurveKeysModel" ({ cls := "EvenCurveKeysModel", name := "numberAt", desc := "(I)I" } : Jvm.MethodName) ({ cls := "EvenCurveKeysModel", name := "numberAt", desc := "(I)I" } : Jvm.MethodName) ∈ wa := List.mem_filter.mpr ⟨List.mem_append_left _ (List.mem_of_getElem? (i := 14) (by decide +kernel)), rfl⟩
theorem wp_15 : Cond.selects "EvenCurveKeysModel" ({ cls := "EvenCurveKeysModel", name := "byteAt", desc := "(I)I" } : Jvm.MethodName) ({ cls := "EvenCurveKeysModel", name := "byteAt", desc := "(I)I" } : Jvm.MethodName) ∈ wa := List.mem_filter.mpr ⟨List.mem_append_left _ (List.mem_of_getElem? (i := 15) (by decide +kernel)), rfl⟩
theorem wp_16 : Cond.selects "EvenCurveKeysModel" ({ cls := "EvenCurveKeysModel", name := "same", desc := "(II)Z" } : Jvm.MethodName) ({ cls := "EvenCurveKeysModel", name := "same", desc := "(II)Z" } : Jvm.MethodName) ∈ wa := List.mem_filter.mpr ⟨List.mem_append_left _ (List.mem_of_getElem? (i := 16) (by decide +kernel)), rfl⟩
abbrev sM : Type := Int32 × (Nat → Int64) × (Nat → Int64) × Int32 × Int32 × (Nat → Int64) × (Nat → Int64) × (Nat → Int32) × (Nat → Int32) × Int32 × (Nat → Int32) × Int32 × (Nat → Int32)
abbrev wM (A : Nat → Nat) (cc : Nat → ClassId) (u : sM) : va_W := [(A 0, .inr (3, [.int u.1, .ref (A 1), .ref (A 2), .int u.2.2.2.1, .int u.2.2.2.2.1, .ref (A 3), .ref (A 4), .ref (A 5), .ref (A 6), .int u.2.2.2.2.2.2.2.2.2.1, .ref (A 7), .int u.2.2.2.2.2.2.2.2.2.2.2.1, .ref (A 8)])), (A 1, .inl (cc 1, 6, .inr (.inl u.2.1))), (A 2, .inl (cc 2, 6, .inr (.inl u.2.2.1))), (A 3, .inl (cc 3, 8, .inr (.inl u.2.2.2.2.2.1))), (A 4, .inl (cc 4, 8, .inr (.inl u.2.2.2.2.2.2.1))), (A 5, .inl (cc 5, 8, .inl u.2.2.2.2.2.2.2.1)), (A 6, .inl (cc 6, 8, .inl u.2.2.2.2.2.2.2.2.1)), (A 7, .inl (cc 7, 20, .inl u.2.2.2.2.2.2.2.2.2.2.1)), (A 8, .inl (cc 8, 16, .inl u.2.2.2.2.2.2.2.2.2.2.2.2))]
abbrev kM (cc : Nat → ClassId) : List (ClassId × FieldType) := [(cc 1, .long), (cc 2, .long), (cc 3, .long), (cc 4, .long), (cc 5, .int), (cc 6, .int), (cc 7, .int), (cc 8, .int)]
abbrev sK : Type := (Nat → Int64) × (Nat → Int64) × Int32 × (Nat → Int64) × (Nat → Int64) × (Nat → Int32) × (Nat → Int32) × Int32 × (Nat → Int32) × Int32
abbrev wK (A : Nat → Nat) (cc : Nat → ClassId) (u : sK) : va_W := [(A 0, .inr (2, [.ref (A 1), .ref (A 2), .ref (A 3), .ref (A 8), .int u.2.2.1])), (A 1, .inl (cc 1, 6, .inr (.inl u.1))), (A 2, .inl (cc 2, 6, .inr (.inl u.2.1))), (A 3, .inr (0, [.ref (A 4), .ref (A 5), .ref (A 6), .ref (A 7), .int u.2.2.2.2.2.2.2.1])), (A 4, .inl (cc 4, 8, .inr (.inl u.2.2.2.1))), (A 5, .inl (cc 5, 8, .inr (.inl u.2.2.2.2.1))), (A 6, .inl (cc 6, 8, .inl u.2.2.2.2.2.1)), (A 7, .inl (cc 7, 8, .inl u.2.2.2.2.2.2.1)), (A 8, .inr (1, [.ref (A 9), .int u.2.2.2.2.2.2.2.2.2])), (A 9, .inl (cc 9, 20, .inl u.2.2.2.2.2.2.2.2.1))]
abbrev kK (cc : Nat → ClassId) : List (ClassId × FieldType) := [(cc 1, .long), (cc 2, .long), (cc 4, .long), (cc 5, .long), (cc 6, .int), (cc 7, .int), (cc 9, .int)]
theorem ga_V {c0 c1 : Cond} {own C : String} {idx : Nat} {y : MethodName} (h1 : Cond.methodLink own idx y ∈ wa) (h2 : Cond.instanceMethod y ∈ wa) (h3 : Cond.selects C y y ∈ wa) (h5 : Cond.initialized C ∈ wa) (h4 : c1 ∈ wa) : GoodIn (c0 :: wa) (wsV own idx C y (c1 :: wa)) := by
  have hg : ∀ w, w ∈ wa → w ∈ c0 :: wa ∧ ((w.onTables && w.keeps) = true ∨ ∃ ty, w = .arrayClass ty) := fun w h => ⟨List.mem_cons_of_mem _ h, good_of_word (wa_good h)⟩
  intro w hw
  unfold wsV at hw
  simp only [List.cons_append, List.nil_append, List.mem_cons] at hw
  rcases hw with h | h | h | h | h | h
  · rw [h]; exact hg _ h1
  · rw [h]; exact hg _ h2
  · rw [h]; exact hg _ h3
  · rw [h]; exact hg _ h5
  · rw [h]; exact hg _ h4
  · exact hg _ h
/-- a start with a world of cells -/
def pw (D : va_G) (W : va_W) (K : List (ClassId × FieldType)) (As : List Value) (sz : Nat) : Array Value → State → Prop := fun v U => v = As.toArray ∧ U.heap.size = sz ∧ va_P D vwC W U.heap ∧ va_K D vwC K U ∧ va_D (fun _ => True) W ∧ nw U
/-- the world behind a method -/
def bw {S : Type} (D : va_G) (Wf : S → va_W) (K : List (ClassId × FieldType)) (AA : Nat → Prop) : S → State → Prop := fun u t => va_P D vwC (Wf u) t.heap ∧ va_K D vwC K t ∧ va_D AA (Wf u)
theorem pw_blind {D : va_G} {W : va_W} {K : List (ClassId × FieldType)} {As : List Value} {sz : Nat} : FrameBlind (pw D W K As sz) := fun a U g mk q => by
  obtain ⟨q0, q1, qP, qK, qD, qN⟩ := q
  exact ⟨q0, q1, qP, va_K.moved (u := U) (U := U.calling g mk a) (Vm.Alike.refl U.vm) qK, qD, nw_vm (u := U) (U := U.calling g mk a) rfl qN⟩
theorem pw_pre {s : State} {H : Heap} {D : va_G} {W : va_W} {K : List (ClassId × FieldType)} {AA : Nat → Prop} {As : List Value} {b : Nat} (hP : va_P D vwC W H) (hK : va_K D vwC K s) (hD : va_D AA W) (hN : nw s) {q0 ci : Nat} {q : vw_C} {fs : List Value} (hc : vwC[ci]? = some q) (he : W[q0]? = some (b, .inr (ci, fs))) :
    PreV s H q.1 b (pw D W K (.ref b :: As) H.size) As :=
  ⟨pw_blind, va_recv hK hP hc he, fun U hU hW => ⟨rfl, by rw [hU], by rw [hU]; exact hP, va_K.moved hW.alike hK, hD.weaken (fun _ _ _ _ => trivial), nw_warm hW hN⟩⟩
theorem bw_back {S : Type} {D : va_G} {Wf : S → va_W} {K : List (ClassId × FieldType)} {AC AA : Nat → Prop} {u : S} {t : State} {H : Heap} (hB : bw D Wf K AC u t) (ht : t.heap = H) (hF : ∀ q, AC q → AA q) : va_P D vwC (Wf u) H ∧ va_D AA (Wf u) :=
  ⟨by rw [← ht]; exact hB.1, hB.2.2.weaken (fun _ q _ h => hF q.1 h)⟩
theorem bw_end {S : Type} {D : va_G} {Wf : S → va_W} {K : List (ClassId × FieldType)} {AA : Nat → Prop} {u : S} {s t : State} {H : Heap} (hP : va_P D vwC (Wf u) H) (hK : va_K D vwC K s) (hD : va_D AA (Wf u)) (ht : t.heap = H) (hW : s.WarmedH t.vm) : bw D Wf K AA u t := ⟨by rw [ht]; exact hP, va_K.moved hW.alike hK, hD⟩
end
section
theorem d_M_thrown_0 : decode b_M_thrown 0 = .ok (.aload_n 0, 1) := by decide +kernel
theorem d_M_thrown_1 : decode b_M_thrown 1 = .ok (.getfield 37, 3) := by decide +kernel
theorem d_M_thrown_4 : decode b_M_thrown 4 = .ok (.ireturn, 1) := by decide +kernel
theorem d_M_secret_0 : decode b_M_secret 0 = .ok (.aload_n 0, 1) := by decide +kernel
theorem d_M_secret_1 : decode b_M_secret 1 = .ok (.iload_n 1, 1) := by decide +kernel
theorem d_M_secret_2 : decode b_M_secret 2 = .ok (.invokestatic 95, 3) := by decide +kernel
theorem d_M_secret_5 : decode b_M_secret 5 = .ok (.ifCond .ne 7, 3) := by decide +kernel
theorem d_M_secret_8 : decode b_M_secret 8 = .ok (.iconst 1, 1) := by decide +kernel
theorem d_M_secret_9 : decode b_M_secret 9 = .ok (.goto 22, 3) := by decide +kernel
theorem d_M_secret_12 : decode b_M_secret 12 = .ok (.iload_n 2, 1) := by decide +kernel
theorem d_M_secret_13 : decode b_M_secret 13 = .ok (.iconst 1, 1) := by decide +kernel
theorem d_M_secret_14 : decode b_M_secret 14 = .ok (.if_icmp .lt 12, 3) := by decide +kernel
theorem d_M_secret_17 : decode b_M_secret 17 = .ok (.iload_n 2, 1) := by decide +kernel
theorem d_M_secret_18 : decode b_M_secret 18 = .ok (.i2l, 1) := by decide +kernel
theorem d_M_secret_19 : decode b_M_secret 19 = .ok (.ldc2_w 93, 3) := by decide +kernel
theorem d_M_secret_22 : decode b_M_secret 22 = .ok (.lcmp, 1) := by decide +kernel
theorem d_M_secret_23 : decode b_M_secret 23 = .ok (.ifCond .lt 7, 3) := by decide +kernel
theorem d_M_secret_26 : decode b_M_secret 26 = .ok (.iconst 2, 1) := by decide +kernel
theorem d_M_secret_27 : decode b_M_secret 27 = .ok (.goto 4, 3) := by decide +kernel
theorem d_M_secret_30 : decode b_M_secret 30 = .ok (.iconst 0, 1) := by decide +kernel
theorem d_M_secret_31 : decode b_M_secret 31 = .ok (.putfield 37, 3) := by decide +kernel
theorem d_M_secret_34 : decode b_M_secret 34 = .ok (.aload_n 0, 1) := by decide +kernel
theorem d_M_secret_35 : decode b_M_secret 35 = .ok (.getfield 37, 3) := by decide +kernel
theorem d_M_secret_38 : decode b_M_secret 38 = .ok (.ifCond .eq 5, 3) := by decide +kernel
theorem d_M_secret_41 : decode b_M_secret 41 = .ok (.lconst 0, 1) := by decide +kernel
theorem d_M_secret_42 : decode b_M_secret 42 = .ok (.lreturn, 1) := by decide +kernel
theorem d_M_secret_43 : decode b_M_secret 43 = .ok (.aload_n 0, 1) := by decide +kernel
theorem d_M_secret_44 : decode b_M_secret 44 = .ok (.getfield 13, 3) := by decide +kernel
theorem d_M_secret_47 : decode b_M_secret 47 = .ok (.iload_n 1, 1) := by decide +kernel
theorem d_M_secret_48 : decode b_M_secret 48 = .ok (.iload_n 2, 1) := by decide +kernel
theorem d_M_secret_49 : decode b_M_secret 49 = .ok (.i2l, 1) := by decide +kernel
theorem d_M_secret_50 : decode b_M_secret 50 = .ok (.lastore, 1) := by decide +kernel
theorem d_M_secret_51 : decode b_M_secret 51 = .ok (.aload_n 0, 1) := by decide +kernel
theorem d_M_secret_52 : decode b_M_secret 52 = .ok (.getfield 7, 3) := by decide +kernel
theorem d_M_secret_55 : decode b_M_secret 55 = .ok (.iload_n 1, 1) := by decide +kernel
theorem d_M_secret_56 : decode b_M_secret 56 = .ok (.iload_n 2, 1) := by decide +kernel
theorem d_M_secret_57 : decode b_M_secret 57 = .ok (.i2l, 1) := by decide +kernel
theorem d_M_secret_58 : decode b_M_secret 58 = .ok (.invokestatic 99, 3) := by decide +kernel
theorem d_M_secret_61 : decode b_M_secret 61 = .ok (.invokestatic 103, 3) := by decide +kernel
theorem d_M_secret_64 : decode b_M_secret 64 = .ok (.lastore, 1) := by decide +kernel
theorem d_M_secret_65 : decode b_M_secret 65 = .ok (.aload_n 0, 1) := by decide +kernel
theorem d_M_secret_66 : decode b_M_secret 66 = .ok (.getfield 7, 3) := by decide +kernel
theorem d_M_secret_69 : decode b_M_secret 69 = .ok (.iload_n 1, 1) := by decide +kernel
theorem d_M_secret_70 : decode b_M_secret 70 = .ok (.laload, 1) := by decide +kernel
theorem d_M_secret_71 : decode b_M_secret 71 = .ok (.invokestatic 106, 3) := by decide +kernel
theorem d_M_secret_74 : decode b_M_secret 74 = .ok (.lreturn, 1) := by decide +kernel
theorem d_M_open_0 : decode b_M_open 0 = .ok (.aload_n 0, 1) := by decide +kernel
theorem d_M_open_1 : decode b_M_open 1 = .ok (.iload_n 1, 1) := by decide +kernel
theorem d_M_open_2 : decode b_M_open 2 = .ok (.invokestatic 95, 3) := by decide +kernel
theorem d_M_open_5 : decode b_M_open 5 = .ok (.ifCond .ne 7, 3) := by decide +kernel
theorem d_M_open_8 : decode b_M_open 8 = .ok (.iconst 1, 1) := by decide +kernel
theorem d_M_open_9 : decode b_M_open 9 = .ok (.goto 19, 3) := by decide +kernel
theorem d_M_open_12 : decode b_M_open 12 = .ok (.lload_n 2, 1) := by decide +kernel
theorem d_M_open_13 : decode b_M_open 13 = .ok (.invokestatic 109, 3) := by decide +kernel
theorem d_M_open_16 : decode b_M_open 16 = .ok (.ldc2_w 35, 3) := by decide +kernel
theorem d_M_open_19 : decode b_M_open 19 = .ok (.lcmp, 1) := by decide +kernel
theorem d_M_open_20 : decode b_M_open 20 = .ok (.ifCond .ne 7, 3) := by decide +kernel
theorem d_M_open_23 : decode b_M_open 23 = .ok (.iconst 2, 1) := by decide +kernel
theorem d_M_open_24 : decode b_M_open 24 = .ok (.goto 4, 3) := by decide +kernel
theorem d_M_open_27 : decode b_M_open 27 = .ok (.iconst 0, 1) := by decide +kernel
theorem d_M_open_28 : decode b_M_open 28 = .ok (.putfield 37, 3) := by decide +kernel
theorem d_M_open_31 : decode b_M_open 31 = .ok (.aload_n 0, 1) := by decide +kernel
theorem d_M_open_32 : decode b_M_open 32 = .ok (.getfield 37, 3) := by decide +kernel
theorem d_M_open_35 : decode b_M_open 35 = .ok (.ifCond .ne 12, 3) := by decide +kernel
theorem d_M_open_38 : decode b_M_open 38 = .ok (.aload_n 0, 1) := by decide +kernel
theorem d_M_open_39 : decode b_M_open 39 = .ok (.iload_n 1, 1) := by decide +kernel
theorem d_M_open_40 : decode b_M_open 40 = .ok (.lload_n 2, 1) := by decide +kernel
theorem d_M_open_41 : decode b_M_open 41 = .ok (.invokestatic 109, 3) := by decide +kernel
theorem d_M_open_44 : decode b_M_open 44 = .ok (.invokevirtual 112, 3) := by decide +kernel
theorem d_M_open_47 : decode b_M_open 47 = .ok (.return_, 1) := by decide +kernel
theorem d_M_lay_0 : decode b_M_lay 0 = .ok (.aload_n 0, 1) := by decide +kernel
theorem d_M_lay_1 : decode b_M_lay 1 = .ok (.getfield 7, 3) := by decide +kernel
theorem d_M_lay_4 : decode b_M_lay 4 = .ok (.iload_n 1, 1) := by decide +kernel
theorem d_M_lay_5 : decode b_M_lay 5 = .ok (.lload_n 2, 1) := by decide +kernel
theorem d_M_lay_6 : decode b_M_lay 6 = .ok (.lastore, 1) := by decide +kernel
theorem d_M_lay_7 : decode b_M_lay 7 = .ok (.aload_n 0, 1) := by decide +kernel
theorem d_M_lay_8 : decode b_M_lay 8 = .ok (.getfield 13, 3) := by decide +kernel
theorem d_M_lay_11 : decode b_M_lay 11 = .ok (.iload_n 1, 1) := by decide +kernel
theorem d_M_lay_12 : decode b_M_lay 12 = .ok (.lconst 0, 1) := by decide +kernel
theorem d_M_lay_13 : decode b_M_lay 13 = .ok (.lastore, 1) := by decide +kernel
theorem d_M_lay_14 : decode b_M_lay 14 = .ok (.return_, 1) := by decide +kernel
theorem d_M_code_0 : decode b_M_code 0 = .ok (.aload_n 0, 1) := by decide +kernel
theorem d_M_code_1 : decode b_M_code 1 = .ok (.iload_n 1, 1) := by decide +kernel
theorem d_M_code_2 : decode b_M_code 2 = .ok (.invokestatic 95, 3) := by decide +kernel
theorem d_M_code_5 : decode b_M_code 5 = .ok (.ifCond .eq 7, 3) := by decide +kernel
theorem d_M_code_8 : decode b_M_code 8 = .ok (.iconst 0, 1) := by decide +kernel
theorem d_M_code_9 : decode b_M_code 9 = .ok (.goto 4, 3) := by decide +kernel
theorem d_M_code_12 : decode b_M_code 12 = .ok (.iconst 1, 1) := by decide +kernel
theorem d_M_code_13 : decode b_M_code 13 = .ok (.putfield 37, 3) := by decide +kernel
theorem d_M_code_16 : decode b_M_code 16 = .ok (.aload_n 0, 1) := by decide +kernel
theorem d_M_code_17 : decode b_M_code 17 = .ok (.getfield 37, 3) := by decide +kernel
theorem d_M_code_20 : decode b_M_code 20 = .ok (.ifCond .ne 15, 3) := by decide +kernel
theorem d_M_code_23 : decode b_M_code 23 = .ok (.aload_n 0, 1) := by decide +kernel
theorem d_M_code_24 : decode b_M_code 24 = .ok (.getfield 7, 3) := by decide +kernel
theorem d_M_code_27 : decode b_M_code 27 = .ok (.iload_n 1, 1) := by decide +kernel
theorem d_M_code_28 : decode b_M_code 28 = .ok (.laload, 1) := by decide +kernel
theorem d_M_code_29 : decode b_M_code 29 = .ok (.invokestatic 106, 3) := by decide +kernel
theorem d_M_code_32 : decode b_M_code 32 = .ok (.goto 4, 3) := by decide +kernel
theorem d_M_code_35 : decode b_M_code 35 = .ok (.lconst 0, 1) := by decide +kernel
theorem d_M_code_36 : decode b_M_code 36 = .ok (.lreturn, 1) := by decide +kernel
theorem d_M_even_0 : decode b_M_even 0 = .ok (.aload_n 0, 1) := by decide +kernel
theorem d_M_even_1 : decode b_M_even 1 = .ok (.iconst 0, 1) := by decide +kernel
theorem d_M_even_2 : decode b_M_even 2 = .ok (.putfield 37, 3) := by decide +kernel
theorem d_M_even_5 : decode b_M_even 5 = .ok (.iload_n 1, 1) := by decide +kernel
theorem d_M_even_6 : decode b_M_even 6 = .ok (.i2l, 1) := by decide +kernel
theorem d_M_even_7 : decode b_M_even 7 = .ok (.iconst 0, 1) := by decide +kernel
theorem d_M_even_8 : decode b_M_even 8 = .ok (.invokestatic 89, 3) := by decide +kernel
theorem d_M_even_11 : decode b_M_even 11 = .ok (.invokestatic 106, 3) := by decide +kernel
theorem d_M_even_14 : decode b_M_even 14 = .ok (.lreturn, 1) := by decide +kernel
theorem d_M_tweak_0 : decode b_M_tweak 0 = .ok (.aload_n 0, 1) := by decide +kernel
theorem d_M_tweak_1 : decode b_M_tweak 1 = .ok (.iload_n 1, 1) := by decide +kernel
theorem d_M_tweak_2 : decode b_M_tweak 2 = .ok (.invokestatic 95, 3) := by decide +kernel
theorem d_M_tweak_5 : decode b_M_tweak 5 = .ok (.ifCond .ne 7, 3) := by decide +kernel
theorem d_M_tweak_8 : decode b_M_tweak 8 = .ok (.iconst 1, 1) := by decide +kernel
theorem d_M_tweak_9 : decode b_M_tweak 9 = .ok (.goto 27, 3) := by decide +kernel
theorem d_M_tweak_12 : decode b_M_tweak 12 = .ok (.aload_n 0, 1) := by decide +kernel
theorem d_M_tweak_13 : decode b_M_tweak 13 = .ok (.iload_n 1, 1) := by decide +kernel
theorem d_M_tweak_14 : decode b_M_tweak 14 = .ok (.invokevirtual 116, 3) := by decide +kernel
theorem d_M_tweak_17 : decode b_M_tweak 17 = .ok (.ifCond .ne 7, 3) := by decide +kernel
theorem d_M_tweak_20 : decode b_M_tweak 20 = .ok (.iconst 2, 1) := by decide +kernel
theorem d_M_tweak_21 : decode b_M_tweak 21 = .ok (.goto 15, 3) := by decide +kernel
theorem d_M_tweak_24 : decode b_M_tweak 24 = .ok (.iload_n 2, 1) := by decide +kernel
theorem d_M_tweak_25 : decode b_M_tweak 25 = .ok (.invokestatic 119, 3) := by decide +kernel
theorem d_M_tweak_28 : decode b_M_tweak 28 = .ok (.ifCond .ne 7, 3) := by decide +kernel
theorem d_M_tweak_31 : decode b_M_tweak 31 = .ok (.iconst 3, 1) := by decide +kernel
theorem d_M_tweak_32 : decode b_M_tweak 32 = .ok (.goto 4, 3) := by decide +kernel
theorem d_M_tweak_35 : decode b_M_tweak 35 = .ok (.iconst 0, 1) := by decide +kernel
theorem d_M_tweak_36 : decode b_M_tweak 36 = .ok (.putfield 37, 3) := by decide +kernel
theorem d_M_tweak_39 : decode b_M_tweak 39 = .ok (.aload_n 0, 1) := by decide +kernel
theorem d_M_tweak_40 : decode b_M_tweak 40 = .ok (.getfield 37, 3) := by decide +kernel
theorem d_M_tweak_43 : decode b_M_tweak 43 = .ok (.ifCond .eq 5, 3) := by decide +kernel
theorem d_M_tweak_46 : decode b_M_tweak 46 = .ok (.lconst 0, 1) := by decide +kernel
theorem d_M_tweak_47 : decode b_M_tweak 47 = .ok (.lreturn, 1) := by decide +kernel
theorem d_M_tweak_48 : decode b_M_tweak 48 = .ok (.iload_n 3, 1) := by decide +kernel
theorem d_M_tweak_49 : decode b_M_tweak 49 = .ok (.ifCond .eq 17, 3) := by decide +kernel
theorem d_M_tweak_52 : decode b_M_tweak 52 = .ok (.iload_n 2, 1) := by decide +kernel
theorem d_M_tweak_53 : decode b_M_tweak 53 = .ok (.i2l, 1) := by decide +kernel
theorem d_M_tweak_54 : decode b_M_tweak 54 = .ok (.aload_n 0, 1) := by decide +kernel
theorem d_M_tweak_55 : decode b_M_tweak 55 = .ok (.getfield 7, 3) := by decide +kernel
theorem d_M_tweak_58 : decode b_M_tweak 58 = .ok (.iload_n 1, 1) := by decide +kernel
theorem d_M_tweak_59 : decode b_M_tweak 59 = .ok (.laload, 1) := by decide +kernel
theorem d_M_tweak_60 : decode b_M_tweak 60 = .ok (.invokestatic 103, 3) := by decide +kernel
theorem d_M_tweak_63 : decode b_M_tweak 63 = .ok (.goto 20, 3) := by decide +kernel
theorem d_M_tweak_66 : decode b_M_tweak 66 = .ok (.aload_n 0, 1) := by decide +kernel
theorem d_M_tweak_67 : decode b_M_tweak 67 = .ok (.getfield 7, 3) := by decide +kernel
theorem d_M_tweak_70 : decode b_M_tweak 70 = .ok (.iload_n 1, 1) := by decide +kernel
theorem d_M_tweak_71 : decode b_M_tweak 71 = .ok (.laload, 1) := by decide +kernel
theorem d_M_tweak_72 : decode b_M_tweak 72 = .ok (.iload_n 2, 1) := by decide +kernel
theorem d_M_tweak_73 : decode b_M_tweak 73 = .ok (.i2l, 1) := by decide +kernel
theorem d_M_tweak_74 : decode b_M_tweak 74 = .ok (.invokestatic 99, 3) := by decide +kernel
theorem d_M_tweak_77 : decode b_M_tweak 77 = .ok (.invokestatic 103, 3) := by decide +kernel
theorem d_M_tweak_80 : decode b_M_tweak 80 = .ok (.invokestatic 78, 3) := by decide +kernel
theorem d_M_tweak_83 : decode b_M_tweak 83 = .ok (.lstore 4, 2) := by decide +kernel
theorem d_M_tweak_85 : decode b_M_tweak 85 = .ok (.aload_n 0, 1) := by decide +kernel
theorem d_M_tweak_86 : decode b_M_tweak 86 = .ok (.lload 4, 2) := by decide +kernel
theorem d_M_tweak_88 : decode b_M_tweak 88 = .ok (.ldc2_w 35, 3) := by decide +kernel
theorem d_M_tweak_91 : decode b_M_tweak 91 = .ok (.lcmp, 1) := by decide +kernel
theorem d_M_tweak_92 : decode b_M_tweak 92 = .ok (.ifCond .ne 7, 3) := by decide +kernel
theorem d_M_tweak_95 : decode b_M_tweak 95 = .ok (.iconst 3, 1) := by decide +kernel
theorem d_M_tweak_96 : decode b_M_tweak 96 = .ok (.goto 4, 3) := by decide +kernel
theorem d_M_tweak_99 : decode b_M_tweak 99 = .ok (.iconst 0, 1) := by decide +kernel
theorem d_M_tweak_100 : decode b_M_tweak 100 = .ok (.putfield 37, 3) := by decide +kernel
theorem d_M_tweak_103 : decode b_M_tweak 103 = .ok (.aload_n 0, 1) := by decide +kernel
theorem d_M_tweak_104 : decode b_M_tweak 104 = .ok (.getfield 37, 3) := by decide +kernel
theorem d_M_tweak_107 : decode b_M_tweak 107 = .ok (.ifCond .eq 5, 3) := by decide +kernel
theorem d_M_tweak_110 : decode b_M_tweak 110 = .ok (.lconst 0, 1) := by decide +kernel
theorem d_M_tweak_111 : decode b_M_tweak 111 = .ok (.lreturn, 1) := by decide +kernel
theorem d_M_tweak_112 : decode b_M_tweak 112 = .ok (.aload_n 0, 1) := by decide +kernel
theorem d_M_tweak_113 : decode b_M_tweak 113 = .ok (.getfield 7, 3) := by decide +kernel
theorem d_M_tweak_116 : decode b_M_tweak 116 = .ok (.iload_n 1, 1) := by decide +kernel
theorem d_M_tweak_117 : decode b_M_tweak 117 = .ok (.lload 4, 2) := by decide +kernel
theorem d_M_tweak_119 : decode b_M_tweak 119 = .ok (.lastore, 1) := by decide +kernel
theorem d_M_tweak_120 : decode b_M_tweak 120 = .ok (.aload_n 0, 1) := by decide +kernel
theorem d_M_tweak_121 : decode b_M_tweak 121 = .ok (.getfield 13, 3) := by decide +kernel
theorem d_M_tweak_124 : decode b_M_tweak 124 = .ok (.iload_n 1, 1) := by decide +kernel
theorem d_M_tweak_125 : decode b_M_tweak 125 = .ok (.laload, 1) := by decide +kernel
theorem d_M_tweak_126 : decode b_M_tweak 126 = .ok (.lconst 0, 1) := by decide +kernel
theorem d_M_tweak_127 : decode b_M_tweak 127 = .ok (.lcmp, 1) := by decide +kernel
theorem d_M_tweak_128 : decode b_M_tweak 128 = .ok (.ifCond .le 42, 3) := by decide +kernel
theorem d_M_tweak_131 : decode b_M_tweak 131 = .ok (.aload_n 0, 1) := by decide +kernel
theorem d_M_tweak_132 : decode b_M_tweak 132 = .ok (.getfield 13, 3) := by decide +kernel
theorem d_M_tweak_135 : decode b_M_tweak 135 = .ok (.iload_n 1, 1) := by decide +kernel
theorem d_M_tweak_136 : decode b_M_tweak 136 = .ok (.iload_n 3, 1) := by decide +kernel
theorem d_M_tweak_137 : decode b_M_tweak 137 = .ok (.ifCond .eq 19, 3) := by decide +kernel
theorem d_M_tweak_140 : decode b_M_tweak 140 = .ok (.aload_n 0, 1) := by decide +kernel
theorem d_M_tweak_141 : decode b_M_tweak 141 = .ok (.getfield 13, 3) := by decide +kernel
theorem d_M_tweak_144 : decode b_M_tweak 144 = .ok (.iload_n 1, 1) := by decide +kernel
theorem d_M_tweak_145 : decode b_M_tweak 145 = .ok (.laload, 1) := by decide +kernel
theorem d_M_tweak_146 : decode b_M_tweak 146 = .ok (.iload_n 2, 1) := by decide +kernel
theorem d_M_tweak_147 : decode b_M_tweak 147 = .ok (.i2l, 1) := by decide +kernel
theorem d_M_tweak_148 : decode b_M_tweak 148 = .ok (.lmul, 1) := by decide +kernel
theorem d_M_tweak_149 : decode b_M_tweak 149 = .ok (.ldc2_w 93, 3) := by decide +kernel
theorem d_M_tweak_152 : decode b_M_tweak 152 = .ok (.lrem, 1) := by decide +kernel
theorem d_M_tweak_153 : decode b_M_tweak 153 = .ok (.goto 16, 3) := by decide +kernel
theorem d_M_tweak_156 : decode b_M_tweak 156 = .ok (.aload_n 0, 1) := by decide +kernel
theorem d_M_tweak_157 : decode b_M_tweak 157 = .ok (.getfield 13, 3) := by decide +kernel
theorem d_M_tweak_160 : decode b_M_tweak 160 = .ok (.iload_n 1, 1) := by decide +kernel
theorem d_M_tweak_161 : decode b_M_tweak 161 = .ok (.laload, 1) := by decide +kernel
theorem d_M_tweak_162 : decode b_M_tweak 162 = .ok (.iload_n 2, 1) := by decide +kernel
theorem d_M_tweak_163 : decode b_M_tweak 163 = .ok (.i2l, 1) := by decide +kernel
theorem d_M_tweak_164 : decode b_M_tweak 164 = .ok (.ladd, 1) := by decide +kernel
theorem d_M_tweak_165 : decode b_M_tweak 165 = .ok (.ldc2_w 93, 3) := by decide +kernel
theorem d_M_tweak_168 : decode b_M_tweak 168 = .ok (.lrem, 1) := by decide +kernel
theorem d_M_tweak_169 : decode b_M_tweak 169 = .ok (.lastore, 1) := by decide +kernel
theorem d_M_tweak_170 : decode b_M_tweak 170 = .ok (.lload 4, 2) := by decide +kernel
theorem d_M_tweak_172 : decode b_M_tweak 172 = .ok (.invokestatic 106, 3) := by decide +kernel
theorem d_M_tweak_175 : decode b_M_tweak 175 = .ok (.lreturn, 1) := by decide +kernel
theorem d_M_full_0 : decode b_M_full 0 = .ok (.aload_n 0, 1) := by decide +kernel
theorem d_M_full_1 : decode b_M_full 1 = .ok (.getfield 7, 3) := by decide +kernel
theorem d_M_full_4 : decode b_M_full 4 = .ok (.iload_n 1, 1) := by decide +kernel
theorem d_M_full_5 : decode b_M_full 5 = .ok (.laload, 1) := by decide +kernel
theorem d_M_full_6 : decode b_M_full 6 = .ok (.ldc2_w 35, 3) := by decide +kernel
theorem d_M_full_9 : decode b_M_full 9 = .ok (.lcmp, 1) := by decide +kernel
theorem d_M_full_10 : decode b_M_full 10 = .ok (.ifCond .eq 7, 3) := by decide +kernel
theorem d_M_full_13 : decode b_M_full 13 = .ok (.iconst 1, 1) := by decide +kernel
theorem d_M_full_14 : decode b_M_full 14 = .ok (.goto 4, 3) := by decide +kernel
theorem d_M_full_17 : decode b_M_full 17 = .ok (.iconst 0, 1) := by decide +kernel
theorem d_M_full_18 : decode b_M_full 18 = .ok (.ireturn, 1) := by decide +kernel
theorem d_M_combine_0 : decode b_M_combine 0 = .ok (.aload_n 0, 1) := by decide +kernel
theorem d_M_combine_1 : decode b_M_combine 1 = .ok (.iload_n 1, 1) := by decide +kernel
theorem d_M_combine_2 : decode b_M_combine 2 = .ok (.invokestatic 95, 3) := by decide +kernel
theorem d_M_combine_5 : decode b_M_combine 5 = .ok (.ifCond .eq 17, 3) := by decide +kernel
theorem d_M_combine_8 : decode b_M_combine 8 = .ok (.iload_n 2, 1) := by decide +kernel
theorem d_M_combine_9 : decode b_M_combine 9 = .ok (.invokestatic 95, 3) := by decide +kernel
theorem d_M_combine_12 : decode b_M_combine 12 = .ok (.ifCond .eq 10, 3) := by decide +kernel
theorem d_M_combine_15 : decode b_M_combine 15 = .ok (.iload_n 3, 1) := by decide +kernel
theorem d_M_combine_16 : decode b_M_combine 16 = .ok (.invokestatic 95, 3) := by decide +kernel
theorem d_M_combine_19 : decode b_M_combine 19 = .ok (.ifCond .ne 7, 3) := by decide +kernel
theorem d_M_combine_22 : decode b_M_combine 22 = .ok (.iconst 1, 1) := by decide +kernel
theorem d_M_combine_23 : decode b_M_combine 23 = .ok (.goto 50, 3) := by decide +kernel
theorem d_M_combine_26 : decode b_M_combine 26 = .ok (.aload_n 0, 1) := by decide +kernel
theorem d_M_combine_27 : decode b_M_combine 27 = .ok (.iload_n 2, 1) := by decide +kernel
theorem d_M_combine_28 : decode b_M_combine 28 = .ok (.invokevirtual 116, 3) := by decide +kernel
theorem d_M_combine_31 : decode b_M_combine 31 = .ok (.ifCond .eq 11, 3) := by decide +kernel
theorem d_M_combine_34 : decode b_M_combine 34 = .ok (.aload_n 0, 1) := by decide +kernel
theorem d_M_combine_35 : decode b_M_combine 35 = .ok (.iload_n 3, 1) := by decide +kernel
theorem d_M_combine_36 : decode b_M_combine 36 = .ok (.invokevirtual 116, 3) := by decide +kernel
theorem d_M_combine_39 : decode b_M_combine 39 = .ok (.ifCond .ne 7, 3) := by decide +kernel
theorem d_M_combine_42 : decode b_M_combine 42 = .ok (.iconst 2, 1) := by decide +kernel
theorem d_M_combine_43 : decode b_M_combine 43 = .ok (.goto 30, 3) := by decide +kernel
theorem d_M_combine_46 : decode b_M_combine 46 = .ok (.aload_n 0, 1) := by decide +kernel
theorem d_M_combine_47 : decode b_M_combine 47 = .ok (.getfield 7, 3) := by decide +kernel
theorem d_M_combine_50 : decode b_M_combine 50 = .ok (.iload_n 2, 1) := by decide +kernel
theorem d_M_combine_51 : decode b_M_combine 51 = .ok (.laload, 1) := by decide +kernel
theorem d_M_combine_52 : decode b_M_combine 52 = .ok (.aload_n 0, 1) := by decide +kernel
theorem d_M_combine_53 : decode b_M_combine 53 = .ok (.getfield 7, 3) := by decide +kernel
theorem d_M_combine_56 : decode b_M_combine 56 = .ok (.iload_n 3, 1) := by decide +kernel
theorem d_M_combine_57 : decode b_M_combine 57 = .ok (.laload, 1) := by decide +kernel
theorem d_M_combine_58 : decode b_M_combine 58 = .ok (.invokestatic 78, 3) := by decide +kernel
theorem d_M_combine_61 : decode b_M_combine 61 = .ok (.ldc2_w 35, 3) := by decide +kernel
theorem d_M_combine_64 : decode b_M_combine 64 = .ok (.lcmp, 1) := by decide +kernel
theorem d_M_combine_65 : decode b_M_combine 65 = .ok (.ifCond .ne 7, 3) := by decide +kernel
theorem d_M_combine_68 : decode b_M_combine 68 = .ok (.iconst 3, 1) := by decide +kernel
theorem d_M_combine_69 : decode b_M_combine 69 = .ok (.goto 4, 3) := by decide +kernel
theorem d_M_combine_72 : decode b_M_combine 72 = .ok (.iconst 0, 1) := by decide +kernel
theorem d_M_combine_73 : decode b_M_combine 73 = .ok (.putfield 37, 3) := by decide +kernel
theorem d_M_combine_76 : decode b_M_combine 76 = .ok (.aload_n 0, 1) := by decide +kernel
theorem d_M_combine_77 : decode b_M_combine 77 = .ok (.getfield 37, 3) := by decide +kernel
theorem d_M_combine_80 : decode b_M_combine 80 = .ok (.ifCond .eq 5, 3) := by decide +kernel
theorem d_M_combine_83 : decode b_M_combine 83 = .ok (.lconst 0, 1) := by decide +kernel
theorem d_M_combine_84 : decode b_M_combine 84 = .ok (.lreturn, 1) := by decide +kernel
theorem d_M_combine_85 : decode b_M_combine 85 = .ok (.aload_n 0, 1) := by decide +kernel
theorem d_M_combine_86 : decode b_M_combine 86 = .ok (.iload_n 1, 1) := by decide +kernel
theorem d_M_combine_87 : decode b_M_combine 87 = .ok (.aload_n 0, 1) := by decide +kernel
theorem d_M_combine_88 : decode b_M_combine 88 = .ok (.getfield 7, 3) := by decide +kernel
theorem d_M_combine_91 : decode b_M_combine 91 = .ok (.iload_n 2, 1) := by decide +kernel
theorem d_M_combine_92 : decode b_M_combine 92 = .ok (.laload, 1) := by decide +kernel
theorem d_M_combine_93 : decode b_M_combine 93 = .ok (.aload_n 0, 1) := by decide +kernel
theorem d_M_combine_94 : decode b_M_combine 94 = .ok (.getfield 7, 3) := by decide +kernel
theorem d_M_combine_97 : decode b_M_combine 97 = .ok (.iload_n 3, 1) := by decide +kernel
theorem d_M_combine_98 : decode b_M_combine 98 = .ok (.laload, 1) := by decide +kernel
theorem d_M_combine_99 : decode b_M_combine 99 = .ok (.invokestatic 78, 3) := by decide +kernel
theorem d_M_combine_102 : decode b_M_combine 102 = .ok (.invokevirtual 112, 3) := by decide +kernel
theorem d_M_combine_105 : decode b_M_combine 105 = .ok (.aload_n 0, 1) := by decide +kernel
theorem d_M_combine_106 : decode b_M_combine 106 = .ok (.getfield 7, 3) := by decide +kernel
theorem d_M_combine_109 : decode b_M_combine 109 = .ok (.iload_n 1, 1) := by decide +kernel
theorem d_M_combine_110 : decode b_M_combine 110 = .ok (.laload, 1) := by decide +kernel
theorem d_M_combine_111 : decode b_M_combine 111 = .ok (.invokestatic 106, 3) := by decide +kernel
theorem d_M_combine_114 : decode b_M_combine 114 = .ok (.lreturn, 1) := by decide +kernel
theorem d_M_linear_0 : decode b_M_linear 0 = .ok (.aload_n 0, 1) := by decide +kernel
theorem d_M_linear_1 : decode b_M_linear 1 = .ok (.iload_n 1, 1) := by decide +kernel
theorem d_M_linear_2 : decode b_M_linear 2 = .ok (.invokestatic 95, 3) := by decide +kernel
theorem d_M_linear_5 : decode b_M_linear 5 = .ok (.ifCond .ne 7, 3) := by decide +kernel
theorem d_M_linear_8 : decode b_M_linear 8 = .ok (.iconst 1, 1) := by decide +kernel
theorem d_M_linear_9 : decode b_M_linear 9 = .ok (.goto 34, 3) := by decide +kernel
theorem d_M_linear_12 : decode b_M_linear 12 = .ok (.aload_n 0, 1) := by decide +kernel
theorem d_M_linear_13 : decode b_M_linear 13 = .ok (.iload_n 1, 1) := by decide +kernel
theorem d_M_linear_14 : decode b_M_linear 14 = .ok (.invokevirtual 116, 3) := by decide +kernel
theorem d_M_linear_17 : decode b_M_linear 17 = .ok (.ifCond .ne 7, 3) := by decide +kernel
theorem d_M_linear_20 : decode b_M_linear 20 = .ok (.iconst 2, 1) := by decide +kernel
theorem d_M_linear_21 : decode b_M_linear 21 = .ok (.goto 22, 3) := by decide +kernel
theorem d_M_linear_24 : decode b_M_linear 24 = .ok (.iload_n 2, 1) := by decide +kernel
theorem d_M_linear_25 : decode b_M_linear 25 = .ok (.invokestatic 119, 3) := by decide +kernel
theorem d_M_linear_28 : decode b_M_linear 28 = .ok (.ifCond .eq 10, 3) := by decide +kernel
theorem d_M_linear_31 : decode b_M_linear 31 = .ok (.iload_n 3, 1) := by decide +kernel
theorem d_M_linear_32 : decode b_M_linear 32 = .ok (.invokestatic 119, 3) := by decide +kernel
theorem d_M_linear_35 : decode b_M_linear 35 = .ok (.ifCond .ne 7, 3) := by decide +kernel
theorem d_M_linear_38 : decode b_M_linear 38 = .ok (.iconst 3, 1) := by decide +kernel
theorem d_M_linear_39 : decode b_M_linear 39 = .ok (.goto 4, 3) := by decide +kernel
theorem d_M_linear_42 : decode b_M_linear 42 = .ok (.iconst 0, 1) := by decide +kernel
theorem d_M_linear_43 : decode b_M_linear 43 = .ok (.putfield 37, 3) := by decide +kernel
theorem d_M_linear_46 : decode b_M_linear 46 = .ok (.aload_n 0, 1) := by decide +kernel
theorem d_M_linear_47 : decode b_M_linear 47 = .ok (.getfield 37, 3) := by decide +kernel
theorem d_M_linear_50 : decode b_M_linear 50 = .ok (.ifCond .ne 31, 3) := by decide +kernel
theorem d_M_linear_53 : decode b_M_linear 53 = .ok (.iload_n 2, 1) := by decide +kernel
theorem d_M_linear_54 : decode b_M_linear 54 = .ok (.i2l, 1) := by decide +kernel
theorem d_M_linear_55 : decode b_M_linear 55 = .ok (.invokestatic 99, 3) := by decide +kernel
theorem d_M_linear_58 : decode b_M_linear 58 = .ok (.invokestatic 103, 3) := by decide +kernel
theorem d_M_linear_61 : decode b_M_linear 61 = .ok (.iload_n 3, 1) := by decide +kernel
theorem d_M_linear_62 : decode b_M_linear 62 = .ok (.i2l, 1) := by decide +kernel
theorem d_M_linear_63 : decode b_M_linear 63 = .ok (.aload_n 0, 1) := by decide +kernel
theorem d_M_linear_64 : decode b_M_linear 64 = .ok (.getfield 7, 3) := by decide +kernel
theorem d_M_linear_67 : decode b_M_linear 67 = .ok (.iload_n 1, 1) := by decide +kernel
theorem d_M_linear_68 : decode b_M_linear 68 = .ok (.laload, 1) := by decide +kernel
theorem d_M_linear_69 : decode b_M_linear 69 = .ok (.invokestatic 103, 3) := by decide +kernel
theorem d_M_linear_72 : decode b_M_linear 72 = .ok (.invokestatic 78, 3) := by decide +kernel
theorem d_M_linear_75 : decode b_M_linear 75 = .ok (.invokestatic 106, 3) := by decide +kernel
theorem d_M_linear_78 : decode b_M_linear 78 = .ok (.goto 4, 3) := by decide +kernel
theorem d_M_linear_81 : decode b_M_linear 81 = .ok (.lconst 0, 1) := by decide +kernel
theorem d_M_linear_82 : decode b_M_linear 82 = .ok (.lreturn, 1) := by decide +kernel
theorem d_M_sign_0 : decode b_M_sign 0 = .ok (.aload_n 0, 1) := by decide +kernel
theorem d_M_sign_1 : decode b_M_sign 1 = .ok (.aload_n 0, 1) := by decide +kernel
theorem d_M_sign_2 : decode b_M_sign 2 = .ok (.iload_n 1, 1) := by decide +kernel
theorem d_M_sign_3 : decode b_M_sign 3 = .ok (.invokevirtual 122, 3) := by decide +kernel
theorem d_M_sign_6 : decode b_M_sign 6 = .ok (.putfield 37, 3) := by decide +kernel
theorem d_M_sign_9 : decode b_M_sign 9 = .ok (.aload_n 0, 1) := by decide +kernel
theorem d_M_sign_10 : decode b_M_sign 10 = .ok (.getfield 37, 3) := by decide +kernel
theorem d_M_sign_13 : decode b_M_sign 13 = .ok (.ifCond .eq 5, 3) := by decide +kernel
theorem d_M_sign_16 : decode b_M_sign 16 = .ok (.lconst 0, 1) := by decide +kernel
theorem d_M_sign_17 : decode b_M_sign 17 = .ok (.lreturn, 1) := by decide +kernel
theorem d_M_sign_18 : decode b_M_sign 18 = .ok (.aload_n 0, 1) := by decide +kernel
theorem d_M_sign_19 : decode b_M_sign 19 = .ok (.getfield 13, 3) := by decide +kernel
theorem d_M_sign_22 : decode b_M_sign 22 = .ok (.iload_n 1, 1) := by decide +kernel
theorem d_M_sign_23 : decode b_M_sign 23 = .ok (.laload, 1) := by decide +kernel
theorem d_M_sign_24 : decode b_M_sign 24 = .ok (.lstore 4, 2) := by decide +kernel
theorem d_M_sign_26 : decode b_M_sign 26 = .ok (.lload_n 2, 1) := by decide +kernel
theorem d_M_sign_27 : decode b_M_sign 27 = .ok (.invokestatic 126, 3) := by decide +kernel
theorem d_M_sign_30 : decode b_M_sign 30 = .ok (.lstore 6, 2) := by decide +kernel
theorem d_M_sign_32 : decode b_M_sign 32 = .ok (.iconst 1, 1) := by decide +kernel
theorem d_M_sign_33 : decode b_M_sign 33 = .ok (.istore 8, 2) := by decide +kernel
theorem d_M_sign_35 : decode b_M_sign 35 = .ok (.iload 8, 2) := by decide +kernel
theorem d_M_sign_37 : decode b_M_sign 37 = .ok (.bipush 64, 2) := by decide +kernel
theorem d_M_sign_39 : decode b_M_sign 39 = .ok (.if_icmp .gt 177, 3) := by decide +kernel
theorem d_M_sign_42 : decode b_M_sign 42 = .ok (.lload 4, 2) := by decide +kernel
theorem d_M_sign_44 : decode b_M_sign 44 = .ok (.lload 6, 2) := by decide +kernel
theorem d_M_sign_46 : decode b_M_sign 46 = .ok (.invokestatic 59, 3) := by decide +kernel
theorem d_M_sign_49 : decode b_M_sign 49 = .ok (.iload 8, 2) := by decide +kernel
theorem d_M_sign_51 : decode b_M_sign 51 = .ok (.i2l, 1) := by decide +kernel
theorem d_M_sign_52 : decode b_M_sign 52 = .ok (.invokestatic 59, 3) := by decide +kernel
theorem d_M_sign_55 : decode b_M_sign 55 = .ok (.bipush 33, 2) := by decide +kernel
theorem d_M_sign_57 : decode b_M_sign 57 = .ok (.lushr, 1) := by decide +kernel
theorem d_M_sign_58 : decode b_M_sign 58 = .ok (.lstore 9, 2) := by decide +kernel
theorem d_M_sign_60 : decode b_M_sign 60 = .ok (.lload 9, 2) := by decide +kernel
theorem d_M_sign_62 : decode b_M_sign 62 = .ok (.lconst 1, 1) := by decide +kernel
theorem d_M_sign_63 : decode b_M_sign 63 = .ok (.lcmp, 1) := by decide +kernel
theorem d_M_sign_64 : decode b_M_sign 64 = .ok (.ifCond .lt 146, 3) := by decide +kernel
theorem d_M_sign_67 : decode b_M_sign 67 = .ok (.lload 9, 2) := by decide +kernel
theorem d_M_sign_69 : decode b_M_sign 69 = .ok (.ldc2_w 93, 3) := by decide +kernel
theorem d_M_sign_72 : decode b_M_sign 72 = .ok (.lcmp, 1) := by decide +kernel
theorem d_M_sign_73 : decode b_M_sign 73 = .ok (.ifCond .ge 137, 3) := by decide +kernel
theorem d_M_sign_76 : decode b_M_sign 76 = .ok (.lload 9, 2) := by decide +kernel
theorem d_M_sign_78 : decode b_M_sign 78 = .ok (.invokestatic 99, 3) := by decide +kernel
theorem d_M_sign_81 : decode b_M_sign 81 = .ok (.invokestatic 103, 3) := by decide +kernel
theorem d_M_sign_84 : decode b_M_sign 84 = .ok (.lstore 11, 2) := by decide +kernel
theorem d_M_sign_86 : decode b_M_sign 86 = .ok (.lload 11, 2) := by decide +kernel
theorem d_M_sign_88 : decode b_M_sign 88 = .ok (.invokestatic 64, 3) := by decide +kernel
theorem d_M_sign_91 : decode b_M_sign 91 = .ok (.ldc2_w 93, 3) := by decide +kernel
theorem d_M_sign_94 : decode b_M_sign 94 = .ok (.lrem, 1) := by decide +kernel
theorem d_M_sign_95 : decode b_M_sign 95 = .ok (.lstore 13, 2) := by decide +kernel
theorem d_M_sign_97 : decode b_M_sign 97 = .ok (.lload 6, 2) := by decide +kernel
theorem d_M_sign_99 : decode b_M_sign 99 = .ok (.lload 13, 2) := by decide +kernel
theorem d_M_sign_101 : decode b_M_sign 101 = .ok (.lload 4, 2) := by decide +kernel
theorem d_M_sign_103 : decode b_M_sign 103 = .ok (.lmul, 1) := by decide +kernel
theorem d_M_sign_104 : decode b_M_sign 104 = .ok (.ldc2_w 93, 3) := by decide +kernel
theorem d_M_sign_107 : decode b_M_sign 107 = .ok (.lrem, 1) := by decide +kernel
theorem d_M_sign_108 : decode b_M_sign 108 = .ok (.ladd, 1) := by decide +kernel
theorem d_M_sign_109 : decode b_M_sign 109 = .ok (.lload 9, 2) := by decide +kernel
theorem d_M_sign_111 : decode b_M_sign 111 = .ok (.ldc2_w 93, 3) := by decide +kernel
theorem d_M_sign_114 : decode b_M_sign 114 = .ok (.invokestatic 75, 3) := by decide +kernel
theorem d_M_sign_117 : decode b_M_sign 117 = .ok (.lstore 15, 2) := by decide +kernel
theorem d_M_sign_119 : decode b_M_sign 119 = .ok (.lload 13, 2) := by decide +kernel
theorem d_M_sign_121 : decode b_M_sign 121 = .ok (.lconst 0, 1) := by decide +kernel
theorem d_M_sign_122 : decode b_M_sign 122 = .ok (.lcmp, 1) := by decide +kernel
theorem d_M_sign_123 : decode b_M_sign 123 = .ok (.ifCond .eq 87, 3) := by decide +kernel
theorem d_M_sign_126 : decode b_M_sign 126 = .ok (.lload 15, 2) := by decide +kernel
theorem d_M_sign_128 : decode b_M_sign 128 = .ok (.lconst 0, 1) := by decide +kernel
theorem d_M_sign_129 : decode b_M_sign 129 = .ok (.lcmp, 1) := by decide +kernel
theorem d_M_sign_130 : decode b_M_sign 130 = .ok (.ifCond .eq 80, 3) := by decide +kernel
theorem d_M_sign_133 : decode b_M_sign 133 = .ok (.lload 15, 2) := by decide +kernel
theorem d_M_sign_135 : decode b_M_sign 135 = .ok (.ldc2_w 129, 3) := by decide +kernel
theorem d_M_sign_138 : decode b_M_sign 138 = .ok (.lcmp, 1) := by decide +kernel
theorem d_M_sign_139 : decode b_M_sign 139 = .ok (.ifCond .le 7, 3) := by decide +kernel
theorem d_M_sign_142 : decode b_M_sign 142 = .ok (.iconst 1, 1) := by decide +kernel
theorem d_M_sign_143 : decode b_M_sign 143 = .ok (.goto 4, 3) := by decide +kernel
theorem d_M_sign_146 : decode b_M_sign 146 = .ok (.iconst 0, 1) := by decide +kernel
theorem d_M_sign_147 : decode b_M_sign 147 = .ok (.istore 17, 2) := by decide +kernel
theorem d_M_sign_149 : decode b_M_sign 149 = .ok (.aload_n 0, 1) := by decide +kernel
theorem d_M_sign_150 : decode b_M_sign 150 = .ok (.lload 11, 2) := by decide +kernel
theorem d_M_sign_152 : decode b_M_sign 152 = .ok (.invokestatic 131, 3) := by decide +kernel
theorem d_M_sign_155 : decode b_M_sign 155 = .ok (.iload 17, 2) := by decide +kernel
theorem d_M_sign_157 : decode b_M_sign 157 = .ok (.if_icmp .eq 7, 3) := by decide +kernel
theorem d_M_sign_160 : decode b_M_sign 160 = .ok (.iconst 1, 1) := by decide +kernel
theorem d_M_sign_161 : decode b_M_sign 161 = .ok (.goto 4, 3) := by decide +kernel
theorem d_M_sign_164 : decode b_M_sign 164 = .ok (.iconst 0, 1) := by decide +kernel
theorem d_M_sign_165 : decode b_M_sign 165 = .ok (.lload 11, 2) := by decide +kernel
theorem d_M_sign_167 : decode b_M_sign 167 = .ok (.invokestatic 64, 3) := by decide +kernel
theorem d_M_sign_170 : decode b_M_sign 170 = .ok (.ldc2_w 93, 3) := by decide +kernel
theorem d_M_sign_173 : decode b_M_sign 173 = .ok (.lcmp, 1) := by decide +kernel
theorem d_M_sign_174 : decode b_M_sign 174 = .ok (.ifCond .lt 7, 3) := by decide +kernel
theorem d_M_sign_177 : decode b_M_sign 177 = .ok (.iconst 2, 1) := by decide +kernel
theorem d_M_sign_178 : decode b_M_sign 178 = .ok (.goto 4, 3) := by decide +kernel
theorem d_M_sign_181 : decode b_M_sign 181 = .ok (.iconst 0, 1) := by decide +kernel
theorem d_M_sign_182 : decode b_M_sign 182 = .ok (.iadd, 1) := by decide +kernel
theorem d_M_sign_183 : decode b_M_sign 183 = .ok (.putfield 135, 3) := by decide +kernel
theorem d_M_sign_186 : decode b_M_sign 186 = .ok (.lload 13, 2) := by decide +kernel
theorem d_M_sign_188 : decode b_M_sign 188 = .ok (.ldc2_w 87, 3) := by decide +kernel
theorem d_M_sign_191 : decode b_M_sign 191 = .ok (.lmul, 1) := by decide +kernel
theorem d_M_sign_192 : decode b_M_sign 192 = .ok (.iload 17, 2) := by decide +kernel
theorem d_M_sign_194 : decode b_M_sign 194 = .ok (.ifCond .eq 12, 3) := by decide +kernel
theorem d_M_sign_197 : decode b_M_sign 197 = .ok (.ldc2_w 93, 3) := by decide +kernel
theorem d_M_sign_200 : decode b_M_sign 200 = .ok (.lload 15, 2) := by decide +kernel
theorem d_M_sign_202 : decode b_M_sign 202 = .ok (.lsub, 1) := by decide +kernel
theorem d_M_sign_203 : decode b_M_sign 203 = .ok (.goto 5, 3) := by decide +kernel
theorem d_M_sign_206 : decode b_M_sign 206 = .ok (.lload 15, 2) := by decide +kernel
theorem d_M_sign_208 : decode b_M_sign 208 = .ok (.ladd, 1) := by decide +kernel
theorem d_M_sign_209 : decode b_M_sign 209 = .ok (.lreturn, 1) := by decide +kernel
theorem d_M_sign_210 : decode b_M_sign 210 = .ok (.iinc 8 1, 3) := by decide +kernel
theorem d_M_sign_213 : decode b_M_sign 213 = .ok (.goto (-178), 3) := by decide +kernel
theorem d_M_sign_216 : decode b_M_sign 216 = .ok (.aload_n 0, 1) := by decide +kernel
theorem d_M_sign_217 : decode b_M_sign 217 = .ok (.iconst 3, 1) := by decide +kernel
theorem d_M_sign_218 : decode b_M_sign 218 = .ok (.putfield 37, 3) := by decide +kernel
theorem d_M_sign_221 : decode b_M_sign 221 = .ok (.lconst 0, 1) := by decide +kernel
theorem d_M_sign_222 : decode b_M_sign 222 = .ok (.lreturn, 1) := by decide +kernel
theorem d_M_noSecret_0 : decode b_M_noSecret 0 = .ok (.iload_n 1, 1) := by decide +kernel
theorem d_M_noSecret_1 : decode b_M_noSecret 1 = .ok (.invokestatic 95, 3) := by decide +kernel
theorem d_M_noSecret_4 : decode b_M_noSecret 4 = .ok (.ifCond .ne 7, 3) := by decide +kernel
theorem d_M_noSecret_7 : decode b_M_noSecret 7 = .ok (.iconst 1, 1) := by decide +kernel
theorem d_M_noSecret_8 : decode b_M_noSecret 8 = .ok (.goto 19, 3) := by decide +kernel
theorem d_M_noSecret_11 : decode b_M_noSecret 11 = .ok (.aload_n 0, 1) := by decide +kernel
theorem d_M_noSecret_12 : decode b_M_noSecret 12 = .ok (.getfield 13, 3) := by decide +kernel
theorem d_M_noSecret_15 : decode b_M_noSecret 15 = .ok (.iload_n 1, 1) := by decide +kernel
theorem d_M_noSecret_16 : decode b_M_noSecret 16 = .ok (.laload, 1) := by decide +kernel
theorem d_M_noSecret_17 : decode b_M_noSecret 17 = .ok (.lconst 0, 1) := by decide +kernel
theorem d_M_noSecret_18 : decode b_M_noSecret 18 = .ok (.lcmp, 1) := by decide +kernel
theorem d_M_noSecret_19 : decode b_M_noSecret 19 = .ok (.ifCond .ne 7, 3) := by decide +kernel
theorem d_M_noSecret_22 : decode b_M_noSecret 22 = .ok (.iconst 2, 1) := by decide +kernel
theorem d_M_noSecret_23 : decode b_M_noSecret 23 = .ok (.goto 4, 3) := by decide +kernel
theorem d_M_noSecret_26 : decode b_M_noSecret 26 = .ok (.iconst 0, 1) := by decide +kernel
theorem d_M_noSecret_27 : decode b_M_noSecret 27 = .ok (.ireturn, 1) := by decide +kernel
theorem d_M_mark_0 : decode b_M_mark 0 = .ok (.aload_n 0, 1) := by decide +kernel
theorem d_M_mark_1 : decode b_M_mark 1 = .ok (.iconst 0, 1) := by decide +kernel
theorem d_M_mark_2 : decode b_M_mark 2 = .ok (.putfield 37, 3) := by decide +kernel
theorem d_M_mark_5 : decode b_M_mark 5 = .ok (.aload_n 0, 1) := by decide +kernel
theorem d_M_mark_6 : decode b_M_mark 6 = .ok (.getfield 135, 3) := by decide +kernel
theorem d_M_mark_9 : decode b_M_mark 9 = .ok (.ireturn, 1) := by decide +kernel
theorem d_M_good_0 : decode b_M_good 0 = .ok (.aload_n 0, 1) := by decide +kernel
theorem d_M_good_1 : decode b_M_good 1 = .ok (.aload_n 0, 1) := by decide +kernel
theorem d_M_good_2 : decode b_M_good 2 = .ok (.iload_n 1, 1) := by decide +kernel
theorem d_M_good_3 : decode b_M_good 3 = .ok (.invokevirtual 138, 3) := by decide +kernel
theorem d_M_good_6 : decode b_M_good 6 = .ok (.putfield 37, 3) := by decide +kernel
theorem d_M_good_9 : decode b_M_good 9 = .ok (.aload_n 0, 1) := by decide +kernel
theorem d_M_good_10 : decode b_M_good 10 = .ok (.getfield 37, 3) := by decide +kernel
theorem d_M_good_13 : decode b_M_good 13 = .ok (.ifCond .ne 35, 3) := by decide +kernel
theorem d_M_good_16 : decode b_M_good 16 = .ok (.iload 4, 2) := by decide +kernel
theorem d_M_good_18 : decode b_M_good 18 = .ok (.iconst 1, 1) := by decide +kernel
theorem d_M_good_19 : decode b_M_good 19 = .ok (.if_icmp .lt 29, 3) := by decide +kernel
theorem d_M_good_22 : decode b_M_good 22 = .ok (.iload 4, 2) := by decide +kernel
theorem d_M_good_24 : decode b_M_good 24 = .ok (.i2l, 1) := by decide +kernel
theorem d_M_good_25 : decode b_M_good 25 = .ok (.ldc2_w 93, 3) := by decide +kernel
theorem d_M_good_28 : decode b_M_good 28 = .ok (.lcmp, 1) := by decide +kernel
theorem d_M_good_29 : decode b_M_good 29 = .ok (.ifCond .ge 19, 3) := by decide +kernel
theorem d_M_good_32 : decode b_M_good 32 = .ok (.iload 5, 2) := by decide +kernel
theorem d_M_good_34 : decode b_M_good 34 = .ok (.iconst 1, 1) := by decide +kernel
theorem d_M_good_35 : decode b_M_good 35 = .ok (.if_icmp .lt 13, 3) := by decide +kernel
theorem d_M_good_38 : decode b_M_good 38 = .ok (.iload 5, 2) := by decide +kernel
theorem d_M_good_40 : decode b_M_good 40 = .ok (.i2l, 1) := by decide +kernel
theorem d_M_good_41 : decode b_M_good 41 = .ok (.ldc2_w 129, 3) := by decide +kernel
theorem d_M_good_44 : decode b_M_good 44 = .ok (.lcmp, 1) := by decide +kernel
theorem d_M_good_45 : decode b_M_good 45 = .ok (.ifCond .le 5, 3) := by decide +kernel
theorem d_M_good_48 : decode b_M_good 48 = .ok (.iconst 0, 1) := by decide +kernel
theorem d_M_good_49 : decode b_M_good 49 = .ok (.ireturn, 1) := by decide +kernel
theorem d_M_good_50 : decode b_M_good 50 = .ok (.lload_n 2, 1) := by decide +kernel
theorem d_M_good_51 : decode b_M_good 51 = .ok (.invokestatic 126, 3) := by decide +kernel
theorem d_M_good_54 : decode b_M_good 54 = .ok (.iload 5, 2) := by decide +kernel
theorem d_M_good_56 : decode b_M_good 56 = .ok (.i2l, 1) := by decide +kernel
theorem d_M_good_57 : decode b_M_good 57 = .ok (.ldc2_w 93, 3) := by decide +kernel
theorem d_M_good_60 : decode b_M_good 60 = .ok (.invokestatic 75, 3) := by decide +kernel
theorem d_M_good_63 : decode b_M_good 63 = .ok (.lstore 6, 2) := by decide +kernel
theorem d_M_good_65 : decode b_M_good 65 = .ok (.iload 4, 2) := by decide +kernel
theorem d_M_good_67 : decode b_M_good 67 = .ok (.i2l, 1) := by decide +kernel
theorem d_M_good_68 : decode b_M_good 68 = .ok (.iload 5, 2) := by decide +kernel
theorem d_M_good_70 : decode b_M_good 70 = .ok (.i2l, 1) := by decide +kernel
theorem d_M_good_71 : decode b_M_good 71 = .ok (.ldc2_w 93, 3) := by decide +kernel
theorem d_M_good_74 : decode b_M_good 74 = .ok (.invokestatic 75, 3) := by decide +kernel
theorem d_M_good_77 : decode b_M_good 77 = .ok (.lstore 8, 2) := by decide +kernel
theorem d_M_good_79 : decode b_M_good 79 = .ok (.lload 6, 2) := by decide +kernel
theorem d_M_good_81 : decode b_M_good 81 = .ok (.invokestatic 99, 3) := by decide +kernel
theorem d_M_good_84 : decode b_M_good 84 = .ok (.invokestatic 103, 3) := by decide +kernel
theorem d_M_good_87 : decode b_M_good 87 = .ok (.lload 8, 2) := by decide +kernel
theorem d_M_good_89 : decode b_M_good 89 = .ok (.aload_n 0, 1) := by decide +kernel
theorem d_M_good_90 : decode b_M_good 90 = .ok (.getfield 7, 3) := by decide +kernel
theorem d_M_good_93 : decode b_M_good 93 = .ok (.iload_n 1, 1) := by decide +kernel
theorem d_M_good_94 : decode b_M_good 94 = .ok (.laload, 1) := by decide +kernel
theorem d_M_good_95 : decode b_M_good 95 = .ok (.invokestatic 103, 3) := by decide +kernel
theorem d_M_good_98 : decode b_M_good 98 = .ok (.invokestatic 78, 3) := by decide +kernel
theorem d_M_good_101 : decode b_M_good 101 = .ok (.lstore 10, 2) := by decide +kernel
theorem d_M_good_103 : decode b_M_good 103 = .ok (.lload 10, 2) := by decide +kernel
theorem d_M_good_105 : decode b_M_good 105 = .ok (.ldc2_w 35, 3) := by decide +kernel
theorem d_M_good_108 : decode b_M_good 108 = .ok (.lcmp, 1) := by decide +kernel
theorem d_M_good_109 : decode b_M_good 109 = .ok (.ifCond .eq 23, 3) := by decide +kernel
theorem d_M_good_112 : decode b_M_good 112 = .ok (.lload 10, 2) := by decide +kernel
theorem d_M_good_114 : decode b_M_good 114 = .ok (.invokestatic 64, 3) := by decide +kernel
theorem d_M_good_117 : decode b_M_good 117 = .ok (.ldc2_w 93, 3) := by decide +kernel
theorem d_M_good_120 : decode b_M_good 120 = .ok (.lrem, 1) := by decide +kernel
theorem d_M_good_121 : decode b_M_good 121 = .ok (.iload 4, 2) := by decide +kernel
theorem d_M_good_123 : decode b_M_good 123 = .ok (.i2l, 1) := by decide +kernel
theorem d_M_good_124 : decode b_M_good 124 = .ok (.lcmp, 1) := by decide +kernel
theorem d_M_good_125 : decode b_M_good 125 = .ok (.ifCond .ne 7, 3) := by decide +kernel
theorem d_M_good_128 : decode b_M_good 128 = .ok (.iconst 1, 1) := by decide +kernel
theorem d_M_good_129 : decode b_M_good 129 = .ok (.goto 4, 3) := by decide +kernel
theorem d_M_good_132 : decode b_M_good 132 = .ok (.iconst 0, 1) := by decide +kernel
theorem d_M_good_133 : decode b_M_good 133 = .ok (.ireturn, 1) := by decide +kernel
theorem d_M_noPoint_0 : decode b_M_noPoint 0 = .ok (.iload_n 1, 1) := by decide +kernel
theorem d_M_noPoint_1 : decode b_M_noPoint 1 = .ok (.invokestatic 95, 3) := by decide +kernel
theorem d_M_noPoint_4 : decode b_M_noPoint 4 = .ok (.ifCond .ne 7, 3) := by decide +kernel
theorem d_M_noPoint_7 : decode b_M_noPoint 7 = .ok (.iconst 1, 1) := by decide +kernel
theorem d_M_noPoint_8 : decode b_M_noPoint 8 = .ok (.goto 16, 3) := by decide +kernel
theorem d_M_noPoint_11 : decode b_M_noPoint 11 = .ok (.aload_n 0, 1) := by decide +kernel
theorem d_M_noPoint_12 : decode b_M_noPoint 12 = .ok (.iload_n 1, 1) := by decide +kernel
theorem d_M_noPoint_13 : decode b_M_noPoint 13 = .ok (.invokevirtual 116, 3) := by decide +kernel
theorem d_M_noPoint_16 : decode b_M_noPoint 16 = .ok (.ifCond .ne 7, 3) := by decide +kernel
theorem d_M_noPoint_19 : decode b_M_noPoint 19 = .ok (.iconst 2, 1) := by decide +kernel
theorem d_M_noPoint_20 : decode b_M_noPoint 20 = .ok (.goto 4, 3) := by decide +kernel
theorem d_M_noPoint_23 : decode b_M_noPoint 23 = .ok (.iconst 0, 1) := by decide +kernel
theorem d_M_noPoint_24 : decode b_M_noPoint 24 = .ok (.ireturn, 1) := by decide +kernel
theorem d_M_recover_0 : decode b_M_recover 0 = .ok (.iload 4, 2) := by decide +kernel
theorem d_M_recover_2 : decode b_M_recover 2 = .ok (.iconst 1, 1) := by decide +kernel
theorem d_M_recover_3 : decode b_M_recover 3 = .ok (.if_icmp .lt 44, 3) := by decide +kernel
theorem d_M_recover_6 : decode b_M_recover 6 = .ok (.iload 4, 2) := by decide +kernel
theorem d_M_recover_8 : decode b_M_recover 8 = .ok (.i2l, 1) := by decide +kernel
theorem d_M_recover_9 : decode b_M_recover 9 = .ok (.ldc2_w 93, 3) := by decide +kernel
theorem d_M_recover_12 : decode b_M_recover 12 = .ok (.lcmp, 1) := by decide +kernel
theorem d_M_recover_13 : decode b_M_recover 13 = .ok (.ifCond .ge 34, 3) := by decide +kernel
theorem d_M_recover_16 : decode b_M_recover 16 = .ok (.iload 5, 2) := by decide +kernel
theorem d_M_recover_18 : decode b_M_recover 18 = .ok (.iconst 1, 1) := by decide +kernel
theorem d_M_recover_19 : decode b_M_recover 19 = .ok (.if_icmp .lt 28, 3) := by decide +kernel
theorem d_M_recover_22 : decode b_M_recover 22 = .ok (.iload 5, 2) := by decide +kernel
theorem d_M_recover_24 : decode b_M_recover 24 = .ok (.i2l, 1) := by decide +kernel
theorem d_M_recover_25 : decode b_M_recover 25 = .ok (.ldc2_w 93, 3) := by decide +kernel
theorem d_M_recover_28 : decode b_M_recover 28 = .ok (.lcmp, 1) := by decide +kernel
theorem d_M_recover_29 : decode b_M_recover 29 = .ok (.ifCond .ge 18, 3) := by decide +kernel
theorem d_M_recover_32 : decode b_M_recover 32 = .ok (.iload 6, 2) := by decide +kernel
theorem d_M_recover_34 : decode b_M_recover 34 = .ok (.ifCond .lt 13, 3) := by decide +kernel
theorem d_M_recover_37 : decode b_M_recover 37 = .ok (.iload 6, 2) := by decide +kernel
theorem d_M_recover_39 : decode b_M_recover 39 = .ok (.iconst 3, 1) := by decide +kernel
theorem d_M_recover_40 : decode b_M_recover 40 = .ok (.if_icmp .gt 7, 3) := by decide +kernel
theorem d_M_recover_43 : decode b_M_recover 43 = .ok (.iconst 1, 1) := by decide +kernel
theorem d_M_recover_44 : decode b_M_recover 44 = .ok (.goto 4, 3) := by decide +kernel
theorem d_M_recover_47 : decode b_M_recover 47 = .ok (.iconst 0, 1) := by decide +kernel
theorem d_M_recover_48 : decode b_M_recover 48 = .ok (.istore 7, 2) := by decide +kernel
theorem d_M_recover_50 : decode b_M_recover 50 = .ok (.aload_n 0, 1) := by decide +kernel
theorem d_M_recover_51 : decode b_M_recover 51 = .ok (.iload_n 1, 1) := by decide +kernel
theorem d_M_recover_52 : decode b_M_recover 52 = .ok (.invokestatic 95, 3) := by decide +kernel
theorem d_M_recover_55 : decode b_M_recover 55 = .ok (.ifCond .ne 7, 3) := by decide +kernel
theorem d_M_recover_58 : decode b_M_recover 58 = .ok (.iconst 1, 1) := by decide +kernel
theorem d_M_recover_59 : decode b_M_recover 59 = .ok (.goto 13, 3) := by decide +kernel
theorem d_M_recover_62 : decode b_M_recover 62 = .ok (.iload 7, 2) := by decide +kernel
theorem d_M_recover_64 : decode b_M_recover 64 = .ok (.ifCond .ne 7, 3) := by decide +kernel
theorem d_M_recover_67 : decode b_M_recover 67 = .ok (.iconst 2, 1) := by decide +kernel
theorem d_M_recover_68 : decode b_M_recover 68 = .ok (.goto 4, 3) := by decide +kernel
theorem d_M_recover_71 : decode b_M_recover 71 = .ok (.iconst 0, 1) := by decide +kernel
theorem d_M_recover_72 : decode b_M_recover 72 = .ok (.putfield 37, 3) := by decide +kernel
theorem d_M_recover_75 : decode b_M_recover 75 = .ok (.aload_n 0, 1) := by decide +kernel
theorem d_M_recover_76 : decode b_M_recover 76 = .ok (.getfield 37, 3) := by decide +kernel
theorem d_M_recover_79 : decode b_M_recover 79 = .ok (.ifCond .eq 5, 3) := by decide +kernel
theorem d_M_recover_82 : decode b_M_recover 82 = .ok (.lconst 0, 1) := by decide +kernel
theorem d_M_recover_83 : decode b_M_recover 83 = .ok (.lreturn, 1) := by decide +kernel
theorem d_M_recover_84 : decode b_M_recover 84 = .ok (.iload 6, 2) := by decide +kernel
theorem d_M_recover_86 : decode b_M_recover 86 = .ok (.iconst 1, 1) := by decide +kernel
theorem d_M_recover_87 : decode b_M_recover 87 = .ok (.if_icmp .le 13, 3) := by decide +kernel
theorem d_M_recover_90 : decode b_M_recover 90 = .ok (.iload 4, 2) := by decide +kernel
theorem d_M_recover_92 : decode b_M_recover 92 = .ok (.i2l, 1) := by decide +kernel
theorem d_M_recover_93 : decode b_M_recover 93 = .ok (.ldc2_w 93, 3) := by decide +kernel
theorem d_M_recover_96 : decode b_M_recover 96 = .ok (.ladd, 1) := by decide +kernel
theorem d_M_recover_97 : decode b_M_recover 97 = .ok (.goto 6, 3) := by decide +kernel
theorem d_M_recover_100 : decode b_M_recover 100 = .ok (.iload 4, 2) := by decide +kernel
theorem d_M_recover_102 : decode b_M_recover 102 = .ok (.i2l, 1) := by decide +kernel
theorem d_M_recover_103 : decode b_M_recover 103 = .ok (.iload 6, 2) := by decide +kernel
theorem d_M_recover_105 : decode b_M_recover 105 = .ok (.iconst 2, 1) := by decide +kernel
theorem d_M_recover_106 : decode b_M_recover 106 = .ok (.irem, 1) := by decide +kernel
theorem d_M_recover_107 : decode b_M_recover 107 = .ok (.iconst 1, 1) := by decide +kernel
theorem d_M_recover_108 : decode b_M_recover 108 = .ok (.if_icmp .ne 7, 3) := by decide +kernel
theorem d_M_recover_111 : decode b_M_recover 111 = .ok (.iconst 1, 1) := by decide +kernel
theorem d_M_recover_112 : decode b_M_recover 112 = .ok (.goto 4, 3) := by decide +kernel
theorem d_M_recover_115 : decode b_M_recover 115 = .ok (.iconst 0, 1) := by decide +kernel
theorem d_M_recover_116 : decode b_M_recover 116 = .ok (.invokestatic 89, 3) := by decide +kernel
theorem d_M_recover_119 : decode b_M_recover 119 = .ok (.lstore 8, 2) := by decide +kernel
theorem d_M_recover_121 : decode b_M_recover 121 = .ok (.iload 5, 2) := by decide +kernel
theorem d_M_recover_123 : decode b_M_recover 123 = .ok (.i2l, 1) := by decide +kernel
theorem d_M_recover_124 : decode b_M_recover 124 = .ok (.iload 4, 2) := by decide +kernel
theorem d_M_recover_126 : decode b_M_recover 126 = .ok (.i2l, 1) := by decide +kernel
theorem d_M_recover_127 : decode b_M_recover 127 = .ok (.ldc2_w 93, 3) := by decide +kernel
theorem d_M_recover_130 : decode b_M_recover 130 = .ok (.invokestatic 75, 3) := by decide +kernel
theorem d_M_recover_133 : decode b_M_recover 133 = .ok (.lstore 10, 2) := by decide +kernel
theorem d_M_recover_135 : decode b_M_recover 135 = .ok (.ldc2_w 93, 3) := by decide +kernel
theorem d_M_recover_138 : decode b_M_recover 138 = .ok (.lload_n 2, 1) := by decide +kernel
theorem d_M_recover_139 : decode b_M_recover 139 = .ok (.invokestatic 126, 3) := by decide +kernel
theorem d_M_recover_142 : decode b_M_recover 142 = .ok (.ldc2_w 93, 3) := by decide +kernel
theorem d_M_recover_145 : decode b_M_recover 145 = .ok (.lrem, 1) := by decide +kernel
theorem d_M_recover_146 : decode b_M_recover 146 = .ok (.lsub, 1) := by decide +kernel
theorem d_M_recover_147 : decode b_M_recover 147 = .ok (.iload 4, 2) := by decide +kernel
theorem d_M_recover_149 : decode b_M_recover 149 = .ok (.i2l, 1) := by decide +kernel
theorem d_M_recover_150 : decode b_M_recover 150 = .ok (.ldc2_w 93, 3) := by decide +kernel
theorem d_M_recover_153 : decode b_M_recover 153 = .ok (.invokestatic 75, 3) := by decide +kernel
theorem d_M_recover_156 : decode b_M_recover 156 = .ok (.lstore 12, 2) := by decide +kernel
theorem d_M_recover_158 : decode b_M_recover 158 = .ok (.lload 8, 2) := by decide +kernel
theorem d_M_recover_160 : decode b_M_recover 160 = .ok (.ldc2_w 35, 3) := by decide +kernel
theorem d_M_recover_163 : decode b_M_recover 163 = .ok (.lcmp, 1) := by decide +kernel
theorem d_M_recover_164 : decode b_M_recover 164 = .ok (.ifCond .ne 9, 3) := by decide +kernel
theorem d_M_recover_167 : decode b_M_recover 167 = .ok (.ldc2_w 35, 3) := by decide +kernel
theorem d_M_recover_170 : decode b_M_recover 170 = .ok (.goto 21, 3) := by decide +kernel
theorem d_M_recover_173 : decode b_M_recover 173 = .ok (.lload 10, 2) := by decide +kernel
theorem d_M_recover_175 : decode b_M_recover 175 = .ok (.lload 8, 2) := by decide +kernel
theorem d_M_recover_177 : decode b_M_recover 177 = .ok (.invokestatic 103, 3) := by decide +kernel
theorem d_M_recover_180 : decode b_M_recover 180 = .ok (.lload 12, 2) := by decide +kernel
theorem d_M_recover_182 : decode b_M_recover 182 = .ok (.invokestatic 99, 3) := by decide +kernel
theorem d_M_recover_185 : decode b_M_recover 185 = .ok (.invokestatic 103, 3) := by decide +kernel
theorem d_M_recover_188 : decode b_M_recover 188 = .ok (.invokestatic 78, 3) := by decide +kernel
theorem d_M_recover_191 : decode b_M_recover 191 = .ok (.lstore 14, 2) := by decide +kernel
theorem d_M_recover_193 : decode b_M_recover 193 = .ok (.aload_n 0, 1) := by decide +kernel
theorem d_M_recover_194 : decode b_M_recover 194 = .ok (.lload 14, 2) := by decide +kernel
theorem d_M_recover_196 : decode b_M_recover 196 = .ok (.ldc2_w 35, 3) := by decide +kernel
theorem d_M_recover_199 : decode b_M_recover 199 = .ok (.lcmp, 1) := by decide +kernel
theorem d_M_recover_200 : decode b_M_recover 200 = .ok (.ifCond .ne 7, 3) := by decide +kernel
theorem d_M_recover_203 : decode b_M_recover 203 = .ok (.iconst 2, 1) := by decide +kernel
theorem d_M_recover_204 : decode b_M_recover 204 = .ok (.goto 4, 3) := by decide +kernel
theorem d_M_recover_207 : decode b_M_recover 207 = .ok (.iconst 0, 1) := by decide +kernel
theorem d_M_recover_208 : decode b_M_recover 208 = .ok (.putfield 37, 3) := by decide +kernel
theorem d_M_recover_211 : decode b_M_recover 211 = .ok (.aload_n 0, 1) := by decide +kernel
theorem d_M_recover_212 : decode b_M_recover 212 = .ok (.getfield 37, 3) := by decide +kernel
theorem d_M_recover_215 : decode b_M_recover 215 = .ok (.ifCond .eq 5, 3) := by decide +kernel
theorem d_M_recover_218 : decode b_M_recover 218 = .ok (.lconst 0, 1) := by decide +kernel
theorem d_M_recover_219 : decode b_M_recover 219 = .ok (.lreturn, 1) := by decide +kernel
theorem d_M_recover_220 : decode b_M_recover 220 = .ok (.aload_n 0, 1) := by decide +kernel
theorem d_M_recover_221 : decode b_M_recover 221 = .ok (.iload_n 1, 1) := by decide +kernel
theorem d_M_recover_222 : decode b_M_recover 222 = .ok (.lload 14, 2) := by decide +kernel
theorem d_M_recover_224 : decode b_M_recover 224 = .ok (.invokevirtual 112, 3) := by decide +kernel
theorem d_M_recover_227 : decode b_M_recover 227 = .ok (.lload 14, 2) := by decide +kernel
theorem d_M_recover_229 : decode b_M_recover 229 = .ok (.invokestatic 106, 3) := by decide +kernel
theorem d_M_recover_232 : decode b_M_recover 232 = .ok (.lreturn, 1) := by decide +kernel
theorem d_M_prove_0 : decode b_M_prove 0 = .ok (.aload_n 0, 1) := by decide +kernel
theorem d_M_prove_1 : decode b_M_prove 1 = .ok (.aload_n 0, 1) := by decide +kernel
theorem d_M_prove_2 : decode b_M_prove 2 = .ok (.iload_n 1, 1) := by decide +kernel
theorem d_M_prove_3 : decode b_M_prove 3 = .ok (.invokevirtual 122, 3) := by decide +kernel
theorem d_M_prove_6 : decode b_M_prove 6 = .ok (.putfield 37, 3) := by decide +kernel
theorem d_M_prove_9 : decode b_M_prove 9 = .ok (.aload_n 0, 1) := by decide +kernel
theorem d_M_prove_10 : decode b_M_prove 10 = .ok (.getfield 37, 3) := by decide +kernel
theorem d_M_prove_13 : decode b_M_prove 13 = .ok (.ifCond .eq 5, 3) := by decide +kernel
theorem d_M_prove_16 : decode b_M_prove 16 = .ok (.lconst 0, 1) := by decide +kernel
theorem d_M_prove_17 : decode b_M_prove 17 = .ok (.lreturn, 1) := by decide +kernel
theorem d_M_prove_18 : decode b_M_prove 18 = .ok (.aload_n 0, 1) := by decide +kernel
theorem d_M_prove_19 : decode b_M_prove 19 = .ok (.getfield 7, 3) := by decide +kernel
theorem d_M_prove_22 : decode b_M_prove 22 = .ok (.iload_n 1, 1) := by decide +kernel
theorem d_M_prove_23 : decode b_M_prove 23 = .ok (.laload, 1) := by decide +kernel
theorem d_M_prove_24 : decode b_M_prove 24 = .ok (.invokestatic 64, 3) := by decide +kernel
theorem d_M_prove_27 : decode b_M_prove 27 = .ok (.lstore 6, 2) := by decide +kernel
theorem d_M_prove_29 : decode b_M_prove 29 = .ok (.aload_n 0, 1) := by decide +kernel
theorem d_M_prove_30 : decode b_M_prove 30 = .ok (.getfield 7, 3) := by decide +kernel
theorem d_M_prove_33 : decode b_M_prove 33 = .ok (.iload_n 1, 1) := by decide +kernel
theorem d_M_prove_34 : decode b_M_prove 34 = .ok (.laload, 1) := by decide +kernel
theorem d_M_prove_35 : decode b_M_prove 35 = .ok (.invokestatic 131, 3) := by decide +kernel
theorem d_M_prove_38 : decode b_M_prove 38 = .ok (.ifCond .eq 16, 3) := by decide +kernel
theorem d_M_prove_41 : decode b_M_prove 41 = .ok (.ldc2_w 93, 3) := by decide +kernel
theorem d_M_prove_44 : decode b_M_prove 44 = .ok (.aload_n 0, 1) := by decide +kernel
theorem d_M_prove_45 : decode b_M_prove 45 = .ok (.getfield 13, 3) := by decide +kernel
theorem d_M_prove_48 : decode b_M_prove 48 = .ok (.iload_n 1, 1) := by decide +kernel
theorem d_M_prove_49 : decode b_M_prove 49 = .ok (.laload, 1) := by decide +kernel
theorem d_M_prove_50 : decode b_M_prove 50 = .ok (.lsub, 1) := by decide +kernel
theorem d_M_prove_51 : decode b_M_prove 51 = .ok (.goto 9, 3) := by decide +kernel
theorem d_M_prove_54 : decode b_M_prove 54 = .ok (.aload_n 0, 1) := by decide +kernel
theorem d_M_prove_55 : decode b_M_prove 55 = .ok (.getfield 13, 3) := by decide +kernel
theorem d_M_prove_58 : decode b_M_prove 58 = .ok (.iload_n 1, 1) := by decide +kernel
theorem d_M_prove_59 : decode b_M_prove 59 = .ok (.laload, 1) := by decide +kernel
theorem d_M_prove_60 : decode b_M_prove 60 = .ok (.lstore 8, 2) := by decide +kernel
theorem d_M_prove_62 : decode b_M_prove 62 = .ok (.lload 8, 2) := by decide +kernel
theorem d_M_prove_64 : decode b_M_prove 64 = .ok (.lload 4, 2) := by decide +kernel
theorem d_M_prove_66 : decode b_M_prove 66 = .ok (.ldc2_w 143, 3) := by decide +kernel
theorem d_M_prove_69 : decode b_M_prove 69 = .ok (.invokestatic 59, 3) := by decide +kernel
theorem d_M_prove_72 : decode b_M_prove 72 = .ok (.bipush 34, 2) := by decide +kernel
theorem d_M_prove_74 : decode b_M_prove 74 = .ok (.lushr, 1) := by decide +kernel
theorem d_M_prove_75 : decode b_M_prove 75 = .ok (.lxor, 1) := by decide +kernel
theorem d_M_prove_76 : decode b_M_prove 76 = .ok (.lload 6, 2) := by decide +kernel
theorem d_M_prove_78 : decode b_M_prove 78 = .ok (.invokestatic 59, 3) := by decide +kernel
theorem d_M_prove_81 : decode b_M_prove 81 = .ok (.lload_n 2, 1) := by decide +kernel
theorem d_M_prove_82 : decode b_M_prove 82 = .ok (.invokestatic 59, 3) := by decide +kernel
theorem d_M_prove_85 : decode b_M_prove 85 = .ok (.bipush 33, 2) := by decide +kernel
theorem d_M_prove_87 : decode b_M_prove 87 = .ok (.lushr, 1) := by decide +kernel
theorem d_M_prove_88 : decode b_M_prove 88 = .ok (.ldc2_w 93, 3) := by decide +kernel
theorem d_M_prove_91 : decode b_M_prove 91 = .ok (.lrem, 1) := by decide +kernel
theorem d_M_prove_92 : decode b_M_prove 92 = .ok (.lstore 10, 2) := by decide +kernel
theorem d_M_prove_94 : decode b_M_prove 94 = .ok (.aload_n 0, 1) := by decide +kernel
theorem d_M_prove_95 : decode b_M_prove 95 = .ok (.lload 10, 2) := by decide +kernel
theorem d_M_prove_97 : decode b_M_prove 97 = .ok (.lconst 0, 1) := by decide +kernel
theorem d_M_prove_98 : decode b_M_prove 98 = .ok (.lcmp, 1) := by decide +kernel
theorem d_M_prove_99 : decode b_M_prove 99 = .ok (.ifCond .ne 7, 3) := by decide +kernel
theorem d_M_prove_102 : decode b_M_prove 102 = .ok (.iconst 3, 1) := by decide +kernel
theorem d_M_prove_103 : decode b_M_prove 103 = .ok (.goto 4, 3) := by decide +kernel
theorem d_M_prove_106 : decode b_M_prove 106 = .ok (.iconst 0, 1) := by decide +kernel
theorem d_M_prove_107 : decode b_M_prove 107 = .ok (.putfield 37, 3) := by decide +kernel
theorem d_M_prove_110 : decode b_M_prove 110 = .ok (.aload_n 0, 1) := by decide +kernel
theorem d_M_prove_111 : decode b_M_prove 111 = .ok (.getfield 37, 3) := by decide +kernel
theorem d_M_prove_114 : decode b_M_prove 114 = .ok (.ifCond .eq 5, 3) := by decide +kernel
theorem d_M_prove_117 : decode b_M_prove 117 = .ok (.lconst 0, 1) := by decide +kernel
theorem d_M_prove_118 : decode b_M_prove 118 = .ok (.lreturn, 1) := by decide +kernel
theorem d_M_prove_119 : decode b_M_prove 119 = .ok (.lload 10, 2) := by decide +kernel
theorem d_M_prove_121 : decode b_M_prove 121 = .ok (.invokestatic 99, 3) := by decide +kernel
theorem d_M_prove_124 : decode b_M_prove 124 = .ok (.invokestatic 103, 3) := by decide +kernel
theorem d_M_prove_127 : decode b_M_prove 127 = .ok (.lstore 12, 2) := by decide +kernel
theorem d_M_prove_129 : decode b_M_prove 129 = .ok (.lload 12, 2) := by decide +kernel
theorem d_M_prove_131 : decode b_M_prove 131 = .ok (.invokestatic 131, 3) := by decide +kernel
theorem d_M_prove_134 : decode b_M_prove 134 = .ok (.ifCond .eq 12, 3) := by decide +kernel
theorem d_M_prove_137 : decode b_M_prove 137 = .ok (.ldc2_w 93, 3) := by decide +kernel
theorem d_M_prove_140 : decode b_M_prove 140 = .ok (.lload 10, 2) := by decide +kernel
theorem d_M_prove_142 : decode b_M_prove 142 = .ok (.lsub, 1) := by decide +kernel
theorem d_M_prove_143 : decode b_M_prove 143 = .ok (.goto 5, 3) := by decide +kernel
theorem d_M_prove_146 : decode b_M_prove 146 = .ok (.lload 10, 2) := by decide +kernel
theorem d_M_prove_148 : decode b_M_prove 148 = .ok (.lstore 10, 2) := by decide +kernel
theorem d_M_prove_150 : decode b_M_prove 150 = .ok (.lload 12, 2) := by decide +kernel
theorem d_M_prove_152 : decode b_M_prove 152 = .ok (.invokestatic 64, 3) := by decide +kernel
theorem d_M_prove_155 : decode b_M_prove 155 = .ok (.lload 6, 2) := by decide +kernel
theorem d_M_prove_157 : decode b_M_prove 157 = .ok (.lload_n 2, 1) := by decide +kernel
theorem d_M_prove_158 : decode b_M_prove 158 = .ok (.invokestatic 145, 3) := by decide +kernel
theorem d_M_prove_161 : decode b_M_prove 161 = .ok (.lstore 14, 2) := by decide +kernel
theorem d_M_prove_163 : decode b_M_prove 163 = .ok (.lload 12, 2) := by decide +kernel
theorem d_M_prove_165 : decode b_M_prove 165 = .ok (.invokestatic 64, 3) := by decide +kernel
theorem d_M_prove_168 : decode b_M_prove 168 = .ok (.ldc2_w 87, 3) := by decide +kernel
theorem d_M_prove_171 : decode b_M_prove 171 = .ok (.lmul, 1) := by decide +kernel
theorem d_M_prove_172 : decode b_M_prove 172 = .ok (.lload 10, 2) := by decide +kernel
theorem d_M_prove_174 : decode b_M_prove 174 = .ok (.lload 14, 2) := by decide +kernel
theorem d_M_prove_176 : decode b_M_prove 176 = .ok (.lload 8, 2) := by decide +kernel
theorem d_M_prove_178 : decode b_M_prove 178 = .ok (.lmul, 1) := by decide +kernel
theorem d_M_prove_179 : decode b_M_prove 179 = .ok (.ladd, 1) := by decide +kernel
theorem d_M_prove_180 : decode b_M_prove 180 = .ok (.ldc2_w 93, 3) := by decide +kernel
theorem d_M_prove_183 : decode b_M_prove 183 = .ok (.lrem, 1) := by decide +kernel
theorem d_M_prove_184 : decode b_M_prove 184 = .ok (.ladd, 1) := by decide +kernel
theorem d_M_prove_185 : decode b_M_prove 185 = .ok (.lreturn, 1) := by decide +kernel
theorem d_M_holds_0 : decode b_M_holds 0 = .ok (.aload_n 0, 1) := by decide +kernel
theorem d_M_holds_1 : decode b_M_holds 1 = .ok (.aload_n 0, 1) := by decide +kernel
theorem d_M_holds_2 : decode b_M_holds 2 = .ok (.iload_n 1, 1) := by decide +kernel
theorem d_M_holds_3 : decode b_M_holds 3 = .ok (.invokevirtual 138, 3) := by decide +kernel
theorem d_M_holds_6 : decode b_M_holds 6 = .ok (.putfield 37, 3) := by decide +kernel
theorem d_M_holds_9 : decode b_M_holds 9 = .ok (.aload_n 0, 1) := by decide +kernel
theorem d_M_holds_10 : decode b_M_holds 10 = .ok (.getfield 37, 3) := by decide +kernel
theorem d_M_holds_13 : decode b_M_holds 13 = .ok (.ifCond .ne 26, 3) := by decide +kernel
theorem d_M_holds_16 : decode b_M_holds 16 = .ok (.iload 4, 2) := by decide +kernel
theorem d_M_holds_18 : decode b_M_holds 18 = .ok (.ifCond .lt 21, 3) := by decide +kernel
theorem d_M_holds_21 : decode b_M_holds 21 = .ok (.iload 4, 2) := by decide +kernel
theorem d_M_holds_23 : decode b_M_holds 23 = .ok (.i2l, 1) := by decide +kernel
theorem d_M_holds_24 : decode b_M_holds 24 = .ok (.ldc2_w 73, 3) := by decide +kernel
theorem d_M_holds_27 : decode b_M_holds 27 = .ok (.lcmp, 1) := by decide +kernel
theorem d_M_holds_28 : decode b_M_holds 28 = .ok (.ifCond .ge 11, 3) := by decide +kernel
theorem d_M_holds_31 : decode b_M_holds 31 = .ok (.iload 5, 2) := by decide +kernel
theorem d_M_holds_33 : decode b_M_holds 33 = .ok (.invokestatic 119, 3) := by decide +kernel
theorem d_M_holds_36 : decode b_M_holds 36 = .ok (.ifCond .ne 5, 3) := by decide +kernel
theorem d_M_holds_39 : decode b_M_holds 39 = .ok (.iconst 0, 1) := by decide +kernel
theorem d_M_holds_40 : decode b_M_holds 40 = .ok (.ireturn, 1) := by decide +kernel
theorem d_M_holds_41 : decode b_M_holds 41 = .ok (.aload_n 0, 1) := by decide +kernel
theorem d_M_holds_42 : decode b_M_holds 42 = .ok (.getfield 7, 3) := by decide +kernel
theorem d_M_holds_45 : decode b_M_holds 45 = .ok (.iload_n 1, 1) := by decide +kernel
theorem d_M_holds_46 : decode b_M_holds 46 = .ok (.laload, 1) := by decide +kernel
theorem d_M_holds_47 : decode b_M_holds 47 = .ok (.invokestatic 64, 3) := by decide +kernel
theorem d_M_holds_50 : decode b_M_holds 50 = .ok (.lstore 6, 2) := by decide +kernel
theorem d_M_holds_52 : decode b_M_holds 52 = .ok (.iload 4, 2) := by decide +kernel
theorem d_M_holds_54 : decode b_M_holds 54 = .ok (.i2l, 1) := by decide +kernel
theorem d_M_holds_55 : decode b_M_holds 55 = .ok (.lload 6, 2) := by decide +kernel
theorem d_M_holds_57 : decode b_M_holds 57 = .ok (.lload_n 2, 1) := by decide +kernel
theorem d_M_holds_58 : decode b_M_holds 58 = .ok (.invokestatic 145, 3) := by decide +kernel
theorem d_M_holds_61 : decode b_M_holds 61 = .ok (.lstore 8, 2) := by decide +kernel
theorem d_M_holds_63 : decode b_M_holds 63 = .ok (.iload 5, 2) := by decide +kernel
theorem d_M_holds_65 : decode b_M_holds 65 = .ok (.i2l, 1) := by decide +kernel
theorem d_M_holds_66 : decode b_M_holds 66 = .ok (.invokestatic 99, 3) := by decide +kernel
theorem d_M_holds_69 : decode b_M_holds 69 = .ok (.invokestatic 103, 3) := by decide +kernel
theorem d_M_holds_72 : decode b_M_holds 72 = .ok (.ldc2_w 93, 3) := by decide +kernel
theorem d_M_holds_75 : decode b_M_holds 75 = .ok (.lload 8, 2) := by decide +kernel
theorem d_M_holds_77 : decode b_M_holds 77 = .ok (.lsub, 1) := by decide +kernel
theorem d_M_holds_78 : decode b_M_holds 78 = .ok (.lload 6, 2) := by decide +kernel
theorem d_M_holds_80 : decode b_M_holds 80 = .ok (.iconst 0, 1) := by decide +kernel
theorem d_M_holds_81 : decode b_M_holds 81 = .ok (.invokestatic 89, 3) := by decide +kernel
theorem d_M_holds_84 : decode b_M_holds 84 = .ok (.invokestatic 103, 3) := by decide +kernel
theorem d_M_holds_87 : decode b_M_holds 87 = .ok (.invokestatic 78, 3) := by decide +kernel
theorem d_M_holds_90 : decode b_M_holds 90 = .ok (.lstore 10, 2) := by decide +kernel
theorem d_M_holds_92 : decode b_M_holds 92 = .ok (.lload 10, 2) := by decide +kernel
theorem d_M_holds_94 : decode b_M_holds 94 = .ok (.ldc2_w 35, 3) := by decide +kernel
theorem d_M_holds_97 : decode b_M_holds 97 = .ok (.lcmp, 1) := by decide +kernel
theorem d_M_holds_98 : decode b_M_holds 98 = .ok (.ifCond .eq 27, 3) := by decide +kernel
theorem d_M_holds_101 : decode b_M_holds 101 = .ok (.lload 10, 2) := by decide +kernel
theorem d_M_holds_103 : decode b_M_holds 103 = .ok (.invokestatic 131, 3) := by decide +kernel
theorem d_M_holds_106 : decode b_M_holds 106 = .ok (.ifCond .ne 19, 3) := by decide +kernel
theorem d_M_holds_109 : decode b_M_holds 109 = .ok (.lload 10, 2) := by decide +kernel
theorem d_M_holds_111 : decode b_M_holds 111 = .ok (.invokestatic 64, 3) := by decide +kernel
theorem d_M_holds_114 : decode b_M_holds 114 = .ok (.iload 4, 2) := by decide +kernel
theorem d_M_holds_116 : decode b_M_holds 116 = .ok (.i2l, 1) := by decide +kernel
theorem d_M_holds_117 : decode b_M_holds 117 = .ok (.lcmp, 1) := by decide +kernel
theorem d_M_holds_118 : decode b_M_holds 118 = .ok (.ifCond .ne 7, 3) := by decide +kernel
theorem d_M_holds_121 : decode b_M_holds 121 = .ok (.iconst 1, 1) := by decide +kernel
theorem d_M_holds_122 : decode b_M_holds 122 = .ok (.goto 4, 3) := by decide +kernel
theorem d_M_holds_125 : decode b_M_holds 125 = .ok (.iconst 0, 1) := by decide +kernel
theorem d_M_holds_126 : decode b_M_holds 126 = .ok (.ireturn, 1) := by decide +kernel
theorem d_M_bundle_0 : decode b_M_bundle 0 = .ok (.aload_n 0, 1) := by decide +kernel
theorem d_M_bundle_1 : decode b_M_bundle 1 = .ok (.aload_n 0, 1) := by decide +kernel
theorem d_M_bundle_2 : decode b_M_bundle 2 = .ok (.iload_n 1, 1) := by decide +kernel
theorem d_M_bundle_3 : decode b_M_bundle 3 = .ok (.invokevirtual 138, 3) := by decide +kernel
theorem d_M_bundle_6 : decode b_M_bundle 6 = .ok (.ifCond .eq 11, 3) := by decide +kernel
theorem d_M_bundle_9 : decode b_M_bundle 9 = .ok (.aload_n 0, 1) := by decide +kernel
theorem d_M_bundle_10 : decode b_M_bundle 10 = .ok (.iload_n 1, 1) := by decide +kernel
theorem d_M_bundle_11 : decode b_M_bundle 11 = .ok (.invokevirtual 138, 3) := by decide +kernel
theorem d_M_bundle_14 : decode b_M_bundle 14 = .ok (.goto 17, 3) := by decide +kernel
theorem d_M_bundle_17 : decode b_M_bundle 17 = .ok (.aload_n 0, 1) := by decide +kernel
theorem d_M_bundle_18 : decode b_M_bundle 18 = .ok (.getfield 148, 3) := by decide +kernel
theorem d_M_bundle_21 : decode b_M_bundle 21 = .ok (.bipush 8, 2) := by decide +kernel
theorem d_M_bundle_23 : decode b_M_bundle 23 = .ok (.if_icmp .ne 7, 3) := by decide +kernel
theorem d_M_bundle_26 : decode b_M_bundle 26 = .ok (.iconst 3, 1) := by decide +kernel
theorem d_M_bundle_27 : decode b_M_bundle 27 = .ok (.goto 4, 3) := by decide +kernel
theorem d_M_bundle_30 : decode b_M_bundle 30 = .ok (.iconst 0, 1) := by decide +kernel
theorem d_M_bundle_31 : decode b_M_bundle 31 = .ok (.putfield 37, 3) := by decide +kernel
theorem d_M_bundle_34 : decode b_M_bundle 34 = .ok (.aload_n 0, 1) := by decide +kernel
theorem d_M_bundle_35 : decode b_M_bundle 35 = .ok (.getfield 37, 3) := by decide +kernel
theorem d_M_bundle_38 : decode b_M_bundle 38 = .ok (.ifCond .eq 5, 3) := by decide +kernel
theorem d_M_bundle_41 : decode b_M_bundle 41 = .ok (.iconst 0, 1) := by decide +kernel
theorem d_M_bundle_42 : decode b_M_bundle 42 = .ok (.ireturn, 1) := by decide +kernel
theorem d_M_bundle_43 : decode b_M_bundle 43 = .ok (.aload_n 0, 1) := by decide +kernel
theorem d_M_bundle_44 : decode b_M_bundle 44 = .ok (.getfield 16, 3) := by decide +kernel
theorem d_M_bundle_47 : decode b_M_bundle 47 = .ok (.aload_n 0, 1) := by decide +kernel
theorem d_M_bundle_48 : decode b_M_bundle 48 = .ok (.getfield 148, 3) := by decide +kernel
theorem d_M_bundle_51 : decode b_M_bundle 51 = .ok (.aload_n 0, 1) := by decide +kernel
theorem d_M_bundle_52 : decode b_M_bundle 52 = .ok (.getfield 7, 3) := by decide +kernel
theorem d_M_bundle_55 : decode b_M_bundle 55 = .ok (.iload_n 1, 1) := by decide +kernel
theorem d_M_bundle_56 : decode b_M_bundle 56 = .ok (.laload, 1) := by decide +kernel
theorem d_M_bundle_57 : decode b_M_bundle 57 = .ok (.invokestatic 64, 3) := by decide +kernel
theorem d_M_bundle_60 : decode b_M_bundle 60 = .ok (.lastore, 1) := by decide +kernel
theorem d_M_bundle_61 : decode b_M_bundle 61 = .ok (.aload_n 0, 1) := by decide +kernel
theorem d_M_bundle_62 : decode b_M_bundle 62 = .ok (.getfield 19, 3) := by decide +kernel
theorem d_M_bundle_65 : decode b_M_bundle 65 = .ok (.aload_n 0, 1) := by decide +kernel
theorem d_M_bundle_66 : decode b_M_bundle 66 = .ok (.getfield 148, 3) := by decide +kernel
theorem d_M_bundle_69 : decode b_M_bundle 69 = .ok (.lload_n 2, 1) := by decide +kernel
theorem d_M_bundle_70 : decode b_M_bundle 70 = .ok (.lastore, 1) := by decide +kernel
theorem d_M_bundle_71 : decode b_M_bundle 71 = .ok (.aload_n 0, 1) := by decide +kernel
theorem d_M_bundle_72 : decode b_M_bundle 72 = .ok (.getfield 22, 3) := by decide +kernel
theorem d_M_bundle_75 : decode b_M_bundle 75 = .ok (.aload_n 0, 1) := by decide +kernel
theorem d_M_bundle_76 : decode b_M_bundle 76 = .ok (.getfield 148, 3) := by decide +kernel
theorem d_M_bundle_79 : decode b_M_bundle 79 = .ok (.iload 4, 2) := by decide +kernel
theorem d_M_bundle_81 : decode b_M_bundle 81 = .ok (.iastore, 1) := by decide +kernel
theorem d_M_bundle_82 : decode b_M_bundle 82 = .ok (.aload_n 0, 1) := by decide +kernel
theorem d_M_bundle_83 : decode b_M_bundle 83 = .ok (.getfield 26, 3) := by decide +kernel
theorem d_M_bundle_86 : decode b_M_bundle 86 = .ok (.aload_n 0, 1) := by decide +kernel
theorem d_M_bundle_87 : decode b_M_bundle 87 = .ok (.getfield 148, 3) := by decide +kernel
theorem d_M_bundle_90 : decode b_M_bundle 90 = .ok (.iload 5, 2) := by decide +kernel
theorem d_M_bundle_92 : decode b_M_bundle 92 = .ok (.iastore, 1) := by decide +kernel
theorem d_M_bundle_93 : decode b_M_bundle 93 = .ok (.aload_n 0, 1) := by decide +kernel
theorem d_M_bundle_94 : decode b_M_bundle 94 = .ok (.dup, 1) := by decide +kernel
theorem d_M_bundle_95 : decode b_M_bundle 95 = .ok (.getfield 148, 3) := by decide +kernel
theorem d_M_bundle_98 : decode b_M_bundle 98 = .ok (.iconst 1, 1) := by decide +kernel
theorem d_M_bundle_99 : decode b_M_bundle 99 = .ok (.iadd, 1) := by decide +kernel
theorem d_M_bundle_100 : decode b_M_bundle 100 = .ok (.putfield 148, 3) := by decide +kernel
theorem d_M_bundle_103 : decode b_M_bundle 103 = .ok (.aload_n 0, 1) := by decide +kernel
theorem d_M_bundle_104 : decode b_M_bundle 104 = .ok (.getfield 148, 3) := by decide +kernel
theorem d_M_bundle_107 : decode b_M_bundle 107 = .ok (.ireturn, 1) := by decide +kernel
theorem d_M_right_0 : decode b_M_right 0 = .ok (.aload_n 0, 1) := by decide +kernel
theorem d_M_right_1 : decode b_M_right 1 = .ok (.iconst 0, 1) := by decide +kernel
theorem d_M_right_2 : decode b_M_right 2 = .ok (.putfield 37, 3) := by decide +kernel
theorem d_M_right_5 : decode b_M_right 5 = .ok (.iconst 1, 1) := by decide +kernel
theorem d_M_right_6 : decode b_M_right 6 = .ok (.istore_n 3, 1) := by decide +kernel
theorem d_M_right_7 : decode b_M_right 7 = .ok (.ldc2_w 35, 3) := by decide +kernel
theorem d_M_right_10 : decode b_M_right 10 = .ok (.lstore 4, 2) := by decide +kernel
theorem d_M_right_12 : decode b_M_right 12 = .ok (.ldc2_w 35, 3) := by decide +kernel
theorem d_M_right_15 : decode b_M_right 15 = .ok (.lstore 6, 2) := by decide +kernel
theorem d_M_right_17 : decode b_M_right 17 = .ok (.iconst 0, 1) := by decide +kernel
theorem d_M_right_18 : decode b_M_right 18 = .ok (.istore 8, 2) := by decide +kernel
theorem d_M_right_20 : decode b_M_right 20 = .ok (.iload 8, 2) := by decide +kernel
theorem d_M_right_22 : decode b_M_right 22 = .ok (.aload_n 0, 1) := by decide +kernel
theorem d_M_right_23 : decode b_M_right 23 = .ok (.getfield 148, 3) := by decide +kernel
theorem d_M_right_26 : decode b_M_right 26 = .ok (.if_icmp .ge 181, 3) := by decide +kernel
theorem d_M_right_29 : decode b_M_right 29 = .ok (.iload_n 3, 1) := by decide +kernel
theorem d_M_right_30 : decode b_M_right 30 = .ok (.ifCond .eq 177, 3) := by decide +kernel
theorem d_M_right_33 : decode b_M_right 33 = .ok (.iload 8, 2) := by decide +kernel
theorem d_M_right_35 : decode b_M_right 35 = .ok (.ifCond .ne 7, 3) := by decide +kernel
theorem d_M_right_38 : decode b_M_right 38 = .ok (.lconst 1, 1) := by decide +kernel
theorem d_M_right_39 : decode b_M_right 39 = .ok (.goto 19, 3) := by decide +kernel
theorem d_M_right_42 : decode b_M_right 42 = .ok (.lconst 1, 1) := by decide +kernel
theorem d_M_right_43 : decode b_M_right 43 = .ok (.lload_n 1, 1) := by decide +kernel
theorem d_M_right_44 : decode b_M_right 44 = .ok (.iload 8, 2) := by decide +kernel
theorem d_M_right_46 : decode b_M_right 46 = .ok (.i2l, 1) := by decide +kernel
theorem d_M_right_47 : decode b_M_right 47 = .ok (.invokestatic 59, 3) := by decide +kernel
theorem d_M_right_50 : decode b_M_right 50 = .ok (.bipush 34, 2) := by decide +kernel
theorem d_M_right_52 : decode b_M_right 52 = .ok (.lushr, 1) := by decide +kernel
theorem d_M_right_53 : decode b_M_right 53 = .ok (.ldc2_w 151, 3) := by decide +kernel
theorem d_M_right_56 : decode b_M_right 56 = .ok (.lrem, 1) := by decide +kernel
theorem d_M_right_57 : decode b_M_right 57 = .ok (.ladd, 1) := by decide +kernel
theorem d_M_right_58 : decode b_M_right 58 = .ok (.lstore 9, 2) := by decide +kernel
theorem d_M_right_60 : decode b_M_right 60 = .ok (.aload_n 0, 1) := by decide +kernel
theorem d_M_right_61 : decode b_M_right 61 = .ok (.getfield 22, 3) := by decide +kernel
theorem d_M_right_64 : decode b_M_right 64 = .ok (.iload 8, 2) := by decide +kernel
theorem d_M_right_66 : decode b_M_right 66 = .ok (.iaload, 1) := by decide +kernel
theorem d_M_right_67 : decode b_M_right 67 = .ok (.i2l, 1) := by decide +kernel
theorem d_M_right_68 : decode b_M_right 68 = .ok (.iconst 0, 1) := by decide +kernel
theorem d_M_right_69 : decode b_M_right 69 = .ok (.invokestatic 89, 3) := by decide +kernel
theorem d_M_right_72 : decode b_M_right 72 = .ok (.lstore 11, 2) := by decide +kernel
theorem d_M_right_74 : decode b_M_right 74 = .ok (.lload 11, 2) := by decide +kernel
theorem d_M_right_76 : decode b_M_right 76 = .ok (.ldc2_w 35, 3) := by decide +kernel
theorem d_M_right_79 : decode b_M_right 79 = .ok (.lcmp, 1) := by decide +kernel
theorem d_M_right_80 : decode b_M_right 80 = .ok (.ifCond .eq 20, 3) := by decide +kernel
theorem d_M_right_83 : decode b_M_right 83 = .ok (.aload_n 0, 1) := by decide +kernel
theorem d_M_right_84 : decode b_M_right 84 = .ok (.getfield 26, 3) := by decide +kernel
theorem d_M_right_87 : decode b_M_right 87 = .ok (.iload 8, 2) := by decide +kernel
theorem d_M_right_89 : decode b_M_right 89 = .ok (.iaload, 1) := by decide +kernel
theorem d_M_right_90 : decode b_M_right 90 = .ok (.invokestatic 119, 3) := by decide +kernel
theorem d_M_right_93 : decode b_M_right 93 = .ok (.ifCond .eq 7, 3) := by decide +kernel
theorem d_M_right_96 : decode b_M_right 96 = .ok (.iconst 1, 1) := by decide +kernel
theorem d_M_right_97 : decode b_M_right 97 = .ok (.goto 4, 3) := by decide +kernel
theorem d_M_right_100 : decode b_M_right 100 = .ok (.iconst 0, 1) := by decide +kernel
theorem d_M_right_101 : decode b_M_right 101 = .ok (.istore_n 3, 1) := by decide +kernel
theorem d_M_right_102 : decode b_M_right 102 = .ok (.iload_n 3, 1) := by decide +kernel
theorem d_M_right_103 : decode b_M_right 103 = .ok (.ifCond .eq 98, 3) := by decide +kernel
theorem d_M_right_106 : decode b_M_right 106 = .ok (.aload_n 0, 1) := by decide +kernel
theorem d_M_right_107 : decode b_M_right 107 = .ok (.getfield 22, 3) := by decide +kernel
theorem d_M_right_110 : decode b_M_right 110 = .ok (.iload 8, 2) := by decide +kernel
theorem d_M_right_112 : decode b_M_right 112 = .ok (.iaload, 1) := by decide +kernel
theorem d_M_right_113 : decode b_M_right 113 = .ok (.i2l, 1) := by decide +kernel
theorem d_M_right_114 : decode b_M_right 114 = .ok (.aload_n 0, 1) := by decide +kernel
theorem d_M_right_115 : decode b_M_right 115 = .ok (.getfield 16, 3) := by decide +kernel
theorem d_M_right_118 : decode b_M_right 118 = .ok (.iload 8, 2) := by decide +kernel
theorem d_M_right_120 : decode b_M_right 120 = .ok (.laload, 1) := by decide +kernel
theorem d_M_right_121 : decode b_M_right 121 = .ok (.aload_n 0, 1) := by decide +kernel
theorem d_M_right_122 : decode b_M_right 122 = .ok (.getfield 19, 3) := by decide +kernel
theorem d_M_right_125 : decode b_M_right 125 = .ok (.iload 8, 2) := by decide +kernel
theorem d_M_right_127 : decode b_M_right 127 = .ok (.laload, 1) := by decide +kernel
theorem d_M_right_128 : decode b_M_right 128 = .ok (.invokestatic 145, 3) := by decide +kernel
theorem d_M_right_131 : decode b_M_right 131 = .ok (.lstore 13, 2) := by decide +kernel
theorem d_M_right_133 : decode b_M_right 133 = .ok (.lload 4, 2) := by decide +kernel
theorem d_M_right_135 : decode b_M_right 135 = .ok (.lload 9, 2) := by decide +kernel
theorem d_M_right_137 : decode b_M_right 137 = .ok (.aload_n 0, 1) := by decide +kernel
theorem d_M_right_138 : decode b_M_right 138 = .ok (.getfield 26, 3) := by decide +kernel
theorem d_M_right_141 : decode b_M_right 141 = .ok (.iload 8, 2) := by decide +kernel
theorem d_M_right_143 : decode b_M_right 143 = .ok (.iaload, 1) := by decide +kernel
theorem d_M_right_144 : decode b_M_right 144 = .ok (.i2l, 1) := by decide +kernel
theorem d_M_right_145 : decode b_M_right 145 = .ok (.lmul, 1) := by decide +kernel
theorem d_M_right_146 : decode b_M_right 146 = .ok (.ldc2_w 93, 3) := by decide +kernel
theorem d_M_right_149 : decode b_M_right 149 = .ok (.lrem, 1) := by decide +kernel
theorem d_M_right_150 : decode b_M_right 150 = .ok (.invokestatic 99, 3) := by decide +kernel
theorem d_M_right_153 : decode b_M_right 153 = .ok (.invokestatic 103, 3) := by decide +kernel
theorem d_M_right_156 : decode b_M_right 156 = .ok (.invokestatic 78, 3) := by decide +kernel
theorem d_M_right_159 : decode b_M_right 159 = .ok (.lstore 4, 2) := by decide +kernel
theorem d_M_right_161 : decode b_M_right 161 = .ok (.lload 6, 2) := by decide +kernel
theorem d_M_right_163 : decode b_M_right 163 = .ok (.lload 9, 2) := by decide +kernel
theorem d_M_right_165 : decode b_M_right 165 = .ok (.lload 11, 2) := by decide +kernel
theorem d_M_right_167 : decode b_M_right 167 = .ok (.invokestatic 103, 3) := by decide +kernel
theorem d_M_right_170 : decode b_M_right 170 = .ok (.lload 9, 2) := by decide +kernel
theorem d_M_right_172 : decode b_M_right 172 = .ok (.lload 13, 2) := by decide +kernel
theorem d_M_right_174 : decode b_M_right 174 = .ok (.lmul, 1) := by decide +kernel
theorem d_M_right_175 : decode b_M_right 175 = .ok (.ldc2_w 93, 3) := by decide +kernel
theorem d_M_right_178 : decode b_M_right 178 = .ok (.lrem, 1) := by decide +kernel
theorem d_M_right_179 : decode b_M_right 179 = .ok (.aload_n 0, 1) := by decide +kernel
theorem d_M_right_180 : decode b_M_right 180 = .ok (.getfield 16, 3) := by decide +kernel
theorem d_M_right_183 : decode b_M_right 183 = .ok (.iload 8, 2) := by decide +kernel
theorem d_M_right_185 : decode b_M_right 185 = .ok (.laload, 1) := by decide +kernel
theorem d_M_right_186 : decode b_M_right 186 = .ok (.iconst 0, 1) := by decide +kernel
theorem d_M_right_187 : decode b_M_right 187 = .ok (.invokestatic 89, 3) := by decide +kernel
theorem d_M_right_190 : decode b_M_right 190 = .ok (.invokestatic 103, 3) := by decide +kernel
theorem d_M_right_193 : decode b_M_right 193 = .ok (.invokestatic 78, 3) := by decide +kernel
theorem d_M_right_196 : decode b_M_right 196 = .ok (.invokestatic 78, 3) := by decide +kernel
theorem d_M_right_199 : decode b_M_right 199 = .ok (.lstore 6, 2) := by decide +kernel
theorem d_M_right_201 : decode b_M_right 201 = .ok (.iinc 8 1, 3) := by decide +kernel
theorem d_M_right_204 : decode b_M_right 204 = .ok (.goto (-184), 3) := by decide +kernel
theorem d_M_right_207 : decode b_M_right 207 = .ok (.aload_n 0, 1) := by decide +kernel
theorem d_M_right_208 : decode b_M_right 208 = .ok (.iconst 0, 1) := by decide +kernel
theorem d_M_right_209 : decode b_M_right 209 = .ok (.putfield 148, 3) := by decide +kernel
theorem d_M_right_212 : decode b_M_right 212 = .ok (.iload_n 3, 1) := by decide +kernel
theorem d_M_right_213 : decode b_M_right 213 = .ok (.ifCond .eq 15, 3) := by decide +kernel
theorem d_M_right_216 : decode b_M_right 216 = .ok (.lload 4, 2) := by decide +kernel
theorem d_M_right_218 : decode b_M_right 218 = .ok (.lload 6, 2) := by decide +kernel
theorem d_M_right_220 : decode b_M_right 220 = .ok (.lcmp, 1) := by decide +kernel
theorem d_M_right_221 : decode b_M_right 221 = .ok (.ifCond .ne 7, 3) := by decide +kernel
theorem d_M_right_224 : decode b_M_right 224 = .ok (.iconst 1, 1) := by decide +kernel
theorem d_M_right_225 : decode b_M_right 225 = .ok (.goto 4, 3) := by decide +kernel
theorem d_M_right_228 : decode b_M_right 228 = .ok (.iconst 0, 1) := by decide +kernel
theorem d_M_right_229 : decode b_M_right 229 = .ok (.ireturn, 1) := by decide +kernel
theorem d_M_agree_0 : decode b_M_agree 0 = .ok (.aload_n 0, 1) := by decide +kernel
theorem d_M_agree_1 : decode b_M_agree 1 = .ok (.iload_n 1, 1) := by decide +kernel
theorem d_M_agree_2 : decode b_M_agree 2 = .ok (.invokestatic 95, 3) := by decide +kernel
theorem d_M_agree_5 : decode b_M_agree 5 = .ok (.ifCond .eq 10, 3) := by decide +kernel
theorem d_M_agree_8 : decode b_M_agree 8 = .ok (.iload_n 2, 1) := by decide +kernel
theorem d_M_agree_9 : decode b_M_agree 9 = .ok (.invokestatic 95, 3) := by decide +kernel
theorem d_M_agree_12 : decode b_M_agree 12 = .ok (.ifCond .ne 7, 3) := by decide +kernel
theorem d_M_agree_15 : decode b_M_agree 15 = .ok (.iconst 1, 1) := by decide +kernel
theorem d_M_agree_16 : decode b_M_agree 16 = .ok (.goto 31, 3) := by decide +kernel
theorem d_M_agree_19 : decode b_M_agree 19 = .ok (.aload_n 0, 1) := by decide +kernel
theorem d_M_agree_20 : decode b_M_agree 20 = .ok (.getfield 13, 3) := by decide +kernel
theorem d_M_agree_23 : decode b_M_agree 23 = .ok (.iload_n 1, 1) := by decide +kernel
theorem d_M_agree_24 : decode b_M_agree 24 = .ok (.laload, 1) := by decide +kernel
theorem d_M_agree_25 : decode b_M_agree 25 = .ok (.lconst 0, 1) := by decide +kernel
theorem d_M_agree_26 : decode b_M_agree 26 = .ok (.lcmp, 1) := by decide +kernel
theorem d_M_agree_27 : decode b_M_agree 27 = .ok (.ifCond .ne 7, 3) := by decide +kernel
theorem d_M_agree_30 : decode b_M_agree 30 = .ok (.iconst 2, 1) := by decide +kernel
theorem d_M_agree_31 : decode b_M_agree 31 = .ok (.goto 16, 3) := by decide +kernel
theorem d_M_agree_34 : decode b_M_agree 34 = .ok (.aload_n 0, 1) := by decide +kernel
theorem d_M_agree_35 : decode b_M_agree 35 = .ok (.iload_n 2, 1) := by decide +kernel
theorem d_M_agree_36 : decode b_M_agree 36 = .ok (.invokevirtual 116, 3) := by decide +kernel
theorem d_M_agree_39 : decode b_M_agree 39 = .ok (.ifCond .ne 7, 3) := by decide +kernel
theorem d_M_agree_42 : decode b_M_agree 42 = .ok (.iconst 3, 1) := by decide +kernel
theorem d_M_agree_43 : decode b_M_agree 43 = .ok (.goto 4, 3) := by decide +kernel
theorem d_M_agree_46 : decode b_M_agree 46 = .ok (.iconst 0, 1) := by decide +kernel
theorem d_M_agree_47 : decode b_M_agree 47 = .ok (.putfield 37, 3) := by decide +kernel
theorem d_M_agree_50 : decode b_M_agree 50 = .ok (.aload_n 0, 1) := by decide +kernel
theorem d_M_agree_51 : decode b_M_agree 51 = .ok (.getfield 37, 3) := by decide +kernel
theorem d_M_agree_54 : decode b_M_agree 54 = .ok (.ifCond .eq 5, 3) := by decide +kernel
theorem d_M_agree_57 : decode b_M_agree 57 = .ok (.lconst 0, 1) := by decide +kernel
theorem d_M_agree_58 : decode b_M_agree 58 = .ok (.lreturn, 1) := by decide +kernel
theorem d_M_agree_59 : decode b_M_agree 59 = .ok (.aload_n 0, 1) := by decide +kernel
theorem d_M_agree_60 : decode b_M_agree 60 = .ok (.getfield 13, 3) := by decide +kernel
theorem d_M_agree_63 : decode b_M_agree 63 = .ok (.iload_n 1, 1) := by decide +kernel
theorem d_M_agree_64 : decode b_M_agree 64 = .ok (.laload, 1) := by decide +kernel
theorem d_M_agree_65 : decode b_M_agree 65 = .ok (.aload_n 0, 1) := by decide +kernel
theorem d_M_agree_66 : decode b_M_agree 66 = .ok (.getfield 7, 3) := by decide +kernel
theorem d_M_agree_69 : decode b_M_agree 69 = .ok (.iload_n 2, 1) := by decide +kernel
theorem d_M_agree_70 : decode b_M_agree 70 = .ok (.laload, 1) := by decide +kernel
theorem d_M_agree_71 : decode b_M_agree 71 = .ok (.invokestatic 103, 3) := by decide +kernel
theorem d_M_agree_74 : decode b_M_agree 74 = .ok (.lstore_n 3, 1) := by decide +kernel
theorem d_M_agree_75 : decode b_M_agree 75 = .ok (.lload_n 3, 1) := by decide +kernel
theorem d_M_agree_76 : decode b_M_agree 76 = .ok (.invokestatic 64, 3) := by decide +kernel
theorem d_M_agree_79 : decode b_M_agree 79 = .ok (.lload_n 3, 1) := by decide +kernel
theorem d_M_agree_80 : decode b_M_agree 80 = .ok (.invokestatic 68, 3) := by decide +kernel
theorem d_M_agree_83 : decode b_M_agree 83 = .ok (.invokestatic 59, 3) := by decide +kernel
theorem d_M_agree_86 : decode b_M_agree 86 = .ok (.lreturn, 1) := by decide +kernel
theorem d_M_written_0 : decode b_M_written 0 = .ok (.aload_n 0, 1) := by decide +kernel
theorem d_M_written_1 : decode b_M_written 1 = .ok (.iload_n 1, 1) := by decide +kernel
theorem d_M_written_2 : decode b_M_written 2 = .ok (.ifCond .lt 7, 3) := by decide +kernel
theorem d_M_written_5 : decode b_M_written 5 = .ok (.iload_n 2, 1) := by decide +kernel
theorem d_M_written_6 : decode b_M_written 6 = .ok (.ifCond .ge 7, 3) := by decide +kernel
theorem d_M_written_9 : decode b_M_written 9 = .ok (.iconst 1, 1) := by decide +kernel
theorem d_M_written_10 : decode b_M_written 10 = .ok (.goto 4, 3) := by decide +kernel
theorem d_M_written_13 : decode b_M_written 13 = .ok (.iconst 0, 1) := by decide +kernel
theorem d_M_written_14 : decode b_M_written 14 = .ok (.putfield 37, 3) := by decide +kernel
theorem d_M_written_17 : decode b_M_written 17 = .ok (.aload_n 0, 1) := by decide +kernel
theorem d_M_written_18 : decode b_M_written 18 = .ok (.getfield 37, 3) := by decide +kernel
theorem d_M_written_21 : decode b_M_written 21 = .ok (.ifCond .ne 31, 3) := by decide +kernel
theorem d_M_written_24 : decode b_M_written 24 = .ok (.aload_n 0, 1) := by decide +kernel
theorem d_M_written_25 : decode b_M_written 25 = .ok (.iload_n 1, 1) := by decide +kernel
theorem d_M_written_26 : decode b_M_written 26 = .ok (.iload_n 2, 1) := by decide +kernel
theorem d_M_written_27 : decode b_M_written 27 = .ok (.invokevirtual 168, 3) := by decide +kernel
theorem d_M_written_30 : decode b_M_written 30 = .ok (.aload_n 0, 1) := by decide +kernel
theorem d_M_written_31 : decode b_M_written 31 = .ok (.iload_n 3, 1) := by decide +kernel
theorem d_M_written_32 : decode b_M_written 32 = .ok (.iconst (-1), 1) := by decide +kernel
theorem d_M_written_33 : decode b_M_written 33 = .ok (.if_icmp .lt 11, 3) := by decide +kernel
theorem d_M_written_36 : decode b_M_written 36 = .ok (.iload_n 3, 1) := by decide +kernel
theorem d_M_written_37 : decode b_M_written 37 = .ok (.aload_n 0, 1) := by decide +kernel
theorem d_M_written_38 : decode b_M_written 38 = .ok (.getfield 155, 3) := by decide +kernel
theorem d_M_written_41 : decode b_M_written 41 = .ok (.if_icmp .lt 7, 3) := by decide +kernel
theorem d_M_written_44 : decode b_M_written 44 = .ok (.iconst 1, 1) := by decide +kernel
theorem d_M_written_45 : decode b_M_written 45 = .ok (.goto 4, 3) := by decide +kernel
theorem d_M_written_48 : decode b_M_written 48 = .ok (.iconst 0, 1) := by decide +kernel
theorem d_M_written_49 : decode b_M_written 49 = .ok (.putfield 37, 3) := by decide +kernel
theorem d_M_written_52 : decode b_M_written 52 = .ok (.aload_n 0, 1) := by decide +kernel
theorem d_M_written_53 : decode b_M_written 53 = .ok (.getfield 37, 3) := by decide +kernel
theorem d_M_written_56 : decode b_M_written 56 = .ok (.ifCond .eq 7, 3) := by decide +kernel
theorem d_M_written_59 : decode b_M_written 59 = .ok (.iconst 0, 1) := by decide +kernel
theorem d_M_written_60 : decode b_M_written 60 = .ok (.goto 20, 3) := by decide +kernel
theorem d_M_written_63 : decode b_M_written 63 = .ok (.iload_n 3, 1) := by decide +kernel
theorem d_M_written_64 : decode b_M_written 64 = .ok (.ifCond .ge 10, 3) := by decide +kernel
theorem d_M_written_67 : decode b_M_written 67 = .ok (.aload_n 0, 1) := by decide +kernel
theorem d_M_written_68 : decode b_M_written 68 = .ok (.getfield 155, 3) := by decide +kernel
theorem d_M_written_71 : decode b_M_written 71 = .ok (.goto 9, 3) := by decide +kernel
theorem d_M_written_74 : decode b_M_written 74 = .ok (.aload_n 0, 1) := by decide +kernel
theorem d_M_written_75 : decode b_M_written 75 = .ok (.getfield 32, 3) := by decide +kernel
theorem d_M_written_78 : decode b_M_written 78 = .ok (.iload_n 3, 1) := by decide +kernel
theorem d_M_written_79 : decode b_M_written 79 = .ok (.iaload, 1) := by decide +kernel
theorem d_M_written_80 : decode b_M_written 80 = .ok (.ireturn, 1) := by decide +kernel
theorem d_M_layForm_0 : decode b_M_layForm 0 = .ok (.aload_n 0, 1) := by decide +kernel
theorem d_M_layForm_1 : decode b_M_layForm 1 = .ok (.iconst 0, 1) := by decide +kernel
theorem d_M_layForm_2 : decode b_M_layForm 2 = .ok (.putfield 155, 3) := by decide +kernel
theorem d_M_layForm_5 : decode b_M_layForm 5 = .ok (.aload_n 0, 1) := by decide +kernel
theorem d_M_layForm_6 : decode b_M_layForm 6 = .ok (.bipush 48, 2) := by decide +kernel
theorem d_M_layForm_8 : decode b_M_layForm 8 = .ok (.invokevirtual 158, 3) := by decide +kernel
theorem d_M_layForm_11 : decode b_M_layForm 11 = .ok (.aload_n 0, 1) := by decide +kernel
theorem d_M_layForm_12 : decode b_M_layForm 12 = .ok (.iconst 4, 1) := by decide +kernel
theorem d_M_layForm_13 : decode b_M_layForm 13 = .ok (.iload_n 1, 1) := by decide +kernel
theorem d_M_layForm_14 : decode b_M_layForm 14 = .ok (.invokestatic 162, 3) := by decide +kernel
theorem d_M_layForm_17 : decode b_M_layForm 17 = .ok (.iadd, 1) := by decide +kernel
theorem d_M_layForm_18 : decode b_M_layForm 18 = .ok (.iload_n 2, 1) := by decide +kernel
theorem d_M_layForm_19 : decode b_M_layForm 19 = .ok (.invokestatic 162, 3) := by decide +kernel
theorem d_M_layForm_22 : decode b_M_layForm 22 = .ok (.iadd, 1) := by decide +kernel
theorem d_M_layForm_23 : decode b_M_layForm 23 = .ok (.invokevirtual 158, 3) := by decide +kernel
theorem d_M_layForm_26 : decode b_M_layForm 26 = .ok (.aload_n 0, 1) := by decide +kernel
theorem d_M_layForm_27 : decode b_M_layForm 27 = .ok (.iload_n 1, 1) := by decide +kernel
theorem d_M_layForm_28 : decode b_M_layForm 28 = .ok (.invokevirtual 165, 3) := by decide +kernel
theorem d_M_layForm_31 : decode b_M_layForm 31 = .ok (.aload_n 0, 1) := by decide +kernel
theorem d_M_layForm_32 : decode b_M_layForm 32 = .ok (.iload_n 2, 1) := by decide +kernel
theorem d_M_layForm_33 : decode b_M_layForm 33 = .ok (.invokevirtual 165, 3) := by decide +kernel
theorem d_M_layForm_36 : decode b_M_layForm 36 = .ok (.return_, 1) := by decide +kernel
theorem d_M_layByte_0 : decode b_M_layByte 0 = .ok (.aload_n 0, 1) := by decide +kernel
theorem d_M_layByte_1 : decode b_M_layByte 1 = .ok (.getfield 32, 3) := by decide +kernel
theorem d_M_layByte_4 : decode b_M_layByte 4 = .ok (.aload_n 0, 1) := by decide +kernel
theorem d_M_layByte_5 : decode b_M_layByte 5 = .ok (.getfield 155, 3) := by decide +kernel
theorem d_M_layByte_8 : decode b_M_layByte 8 = .ok (.iload_n 1, 1) := by decide +kernel
theorem d_M_layByte_9 : decode b_M_layByte 9 = .ok (.iastore, 1) := by decide +kernel
theorem d_M_layByte_10 : decode b_M_layByte 10 = .ok (.aload_n 0, 1) := by decide +kernel
theorem d_M_layByte_11 : decode b_M_layByte 11 = .ok (.dup, 1) := by decide +kernel
theorem d_M_layByte_12 : decode b_M_layByte 12 = .ok (.getfield 155, 3) := by decide +kernel
theorem d_M_layByte_15 : decode b_M_layByte 15 = .ok (.iconst 1, 1) := by decide +kernel
theorem d_M_layByte_16 : decode b_M_layByte 16 = .ok (.iadd, 1) := by decide +kernel
theorem d_M_layByte_17 : decode b_M_layByte 17 = .ok (.putfield 155, 3) := by decide +kernel
theorem d_M_layByte_20 : decode b_M_layByte 20 = .ok (.return_, 1) := by decide +kernel
theorem d_M_layNumber_0 : decode b_M_layNumber 0 = .ok (.aload_n 0, 1) := by decide +kernel
theorem d_M_layNumber_1 : decode b_M_layNumber 1 = .ok (.iconst 2, 1) := by decide +kernel
theorem d_M_layNumber_2 : decode b_M_layNumber 2 = .ok (.invokevirtual 158, 3) := by decide +kernel
theorem d_M_layNumber_5 : decode b_M_layNumber 5 = .ok (.aload_n 0, 1) := by decide +kernel
theorem d_M_layNumber_6 : decode b_M_layNumber 6 = .ok (.iload_n 1, 1) := by decide +kernel
theorem d_M_layNumber_7 : decode b_M_layNumber 7 = .ok (.invokestatic 162, 3) := by decide +kernel
theorem d_M_layNumber_10 : decode b_M_layNumber 10 = .ok (.invokevirtual 158, 3) := by decide +kernel
theorem d_M_layNumber_13 : decode b_M_layNumber 13 = .ok (.iload_n 1, 1) := by decide +kernel
theorem d_M_layNumber_14 : decode b_M_layNumber 14 = .ok (.invokestatic 162, 3) := by decide +kernel
theorem d_M_layNumber_17 : decode b_M_layNumber 17 = .ok (.iconst 1, 1) := by decide +kernel
theorem d_M_layNumber_18 : decode b_M_layNumber 18 = .ok (.isub, 1) := by decide +kernel
theorem d_M_layNumber_19 : decode b_M_layNumber 19 = .ok (.istore_n 2, 1) := by decide +kernel
theorem d_M_layNumber_20 : decode b_M_layNumber 20 = .ok (.iload_n 2, 1) := by decide +kernel
theorem d_M_layNumber_21 : decode b_M_layNumber 21 = .ok (.ifCond .lt 23, 3) := by decide +kernel
theorem d_M_layNumber_24 : decode b_M_layNumber 24 = .ok (.aload_n 0, 1) := by decide +kernel
theorem d_M_layNumber_25 : decode b_M_layNumber 25 = .ok (.iload_n 1, 1) := by decide +kernel
theorem d_M_layNumber_26 : decode b_M_layNumber 26 = .ok (.bipush 8, 2) := by decide +kernel
theorem d_M_layNumber_28 : decode b_M_layNumber 28 = .ok (.iload_n 2, 1) := by decide +kernel
theorem d_M_layNumber_29 : decode b_M_layNumber 29 = .ok (.imul, 1) := by decide +kernel
theorem d_M_layNumber_30 : decode b_M_layNumber 30 = .ok (.ishr, 1) := by decide +kernel
theorem d_M_layNumber_31 : decode b_M_layNumber 31 = .ok (.sipush 255, 3) := by decide +kernel
theorem d_M_layNumber_34 : decode b_M_layNumber 34 = .ok (.iand, 1) := by decide +kernel
theorem d_M_layNumber_35 : decode b_M_layNumber 35 = .ok (.invokevirtual 158, 3) := by decide +kernel
theorem d_M_layNumber_38 : decode b_M_layNumber 38 = .ok (.iinc 2 (-1), 3) := by decide +kernel
theorem d_M_layNumber_41 : decode b_M_layNumber 41 = .ok (.goto (-21), 3) := by decide +kernel
theorem d_M_layNumber_44 : decode b_M_layNumber 44 = .ok (.return_, 1) := by decide +kernel
theorem d_M_type_0 : decode b_M_type 0 = .ok (.aload_n 0, 1) := by decide +kernel
theorem d_M_type_1 : decode b_M_type 1 = .ok (.iload_n 1, 1) := by decide +kernel
theorem d_M_type_2 : decode b_M_type 2 = .ok (.ifCond .lt 10, 3) := by decide +kernel
theorem d_M_type_5 : decode b_M_type 5 = .ok (.iload_n 1, 1) := by decide +kernel
theorem d_M_type_6 : decode b_M_type 6 = .ok (.sipush 255, 3) := by decide +kernel
theorem d_M_type_9 : decode b_M_type 9 = .ok (.if_icmp .le 7, 3) := by decide +kernel
theorem d_M_type_12 : decode b_M_type 12 = .ok (.iconst 1, 1) := by decide +kernel
theorem d_M_type_13 : decode b_M_type 13 = .ok (.goto 17, 3) := by decide +kernel
theorem d_M_type_16 : decode b_M_type 16 = .ok (.aload_n 0, 1) := by decide +kernel
theorem d_M_type_17 : decode b_M_type 17 = .ok (.getfield 172, 3) := by decide +kernel
theorem d_M_type_20 : decode b_M_type 20 = .ok (.bipush 20, 2) := by decide +kernel
theorem d_M_type_22 : decode b_M_type 22 = .ok (.if_icmp .ne 7, 3) := by decide +kernel
theorem d_M_type_25 : decode b_M_type 25 = .ok (.iconst 2, 1) := by decide +kernel
theorem d_M_type_26 : decode b_M_type 26 = .ok (.goto 4, 3) := by decide +kernel
theorem d_M_type_29 : decode b_M_type 29 = .ok (.iconst 0, 1) := by decide +kernel
theorem d_M_type_30 : decode b_M_type 30 = .ok (.putfield 37, 3) := by decide +kernel
theorem d_M_type_33 : decode b_M_type 33 = .ok (.aload_n 0, 1) := by decide +kernel
theorem d_M_type_34 : decode b_M_type 34 = .ok (.getfield 37, 3) := by decide +kernel
theorem d_M_type_37 : decode b_M_type 37 = .ok (.ifCond .eq 5, 3) := by decide +kernel
theorem d_M_type_40 : decode b_M_type 40 = .ok (.iconst 0, 1) := by decide +kernel
theorem d_M_type_41 : decode b_M_type 41 = .ok (.ireturn, 1) := by decide +kernel
theorem d_M_type_42 : decode b_M_type 42 = .ok (.aload_n 0, 1) := by decide +kernel
theorem d_M_type_43 : decode b_M_type 43 = .ok (.getfield 29, 3) := by decide +kernel
theorem d_M_type_46 : decode b_M_type 46 = .ok (.aload_n 0, 1) := by decide +kernel
theorem d_M_type_47 : decode b_M_type 47 = .ok (.getfield 172, 3) := by decide +kernel
theorem d_M_type_50 : decode b_M_type 50 = .ok (.iload_n 1, 1) := by decide +kernel
theorem d_M_type_51 : decode b_M_type 51 = .ok (.iastore, 1) := by decide +kernel
theorem d_M_type_52 : decode b_M_type 52 = .ok (.aload_n 0, 1) := by decide +kernel
theorem d_M_type_53 : decode b_M_type 53 = .ok (.dup, 1) := by decide +kernel
theorem d_M_type_54 : decode b_M_type 54 = .ok (.getfield 172, 3) := by decide +kernel
theorem d_M_type_57 : decode b_M_type 57 = .ok (.iconst 1, 1) := by decide +kernel
theorem d_M_type_58 : decode b_M_type 58 = .ok (.iadd, 1) := by decide +kernel
theorem d_M_type_59 : decode b_M_type 59 = .ok (.putfield 172, 3) := by decide +kernel
theorem d_M_type_62 : decode b_M_type 62 = .ok (.aload_n 0, 1) := by decide +kernel
theorem d_M_type_63 : decode b_M_type 63 = .ok (.getfield 172, 3) := by decide +kernel
theorem d_M_type_66 : decode b_M_type 66 = .ok (.ireturn, 1) := by decide +kernel
theorem d_M_read_0 : decode b_M_read 0 = .ok (.aload_n 0, 1) := by decide +kernel
theorem d_M_read_1 : decode b_M_read 1 = .ok (.iconst 0, 1) := by decide +kernel
theorem d_M_read_2 : decode b_M_read 2 = .ok (.putfield 37, 3) := by decide +kernel
theorem d_M_read_5 : decode b_M_read 5 = .ok (.aload_n 0, 1) := by decide +kernel
theorem d_M_read_6 : decode b_M_read 6 = .ok (.iconst 3, 1) := by decide +kernel
theorem d_M_read_7 : decode b_M_read 7 = .ok (.invokevirtual 178, 3) := by decide +kernel
theorem d_M_read_10 : decode b_M_read 10 = .ok (.istore_n 1, 1) := by decide +kernel
theorem d_M_read_11 : decode b_M_read 11 = .ok (.aload_n 0, 1) := by decide +kernel
theorem d_M_read_12 : decode b_M_read 12 = .ok (.iconst 5, 1) := by decide +kernel
theorem d_M_read_13 : decode b_M_read 13 = .ok (.aload_n 0, 1) := by decide +kernel
theorem d_M_read_14 : decode b_M_read 14 = .ok (.iconst 3, 1) := by decide +kernel
theorem d_M_read_15 : decode b_M_read 15 = .ok (.invokevirtual 175, 3) := by decide +kernel
theorem d_M_read_18 : decode b_M_read 18 = .ok (.iadd, 1) := by decide +kernel
theorem d_M_read_19 : decode b_M_read 19 = .ok (.invokevirtual 178, 3) := by decide +kernel
theorem d_M_read_22 : decode b_M_read 22 = .ok (.istore_n 2, 1) := by decide +kernel
theorem d_M_read_23 : decode b_M_read 23 = .ok (.aload_n 0, 1) := by decide +kernel
theorem d_M_read_24 : decode b_M_read 24 = .ok (.iload_n 1, 1) := by decide +kernel
theorem d_M_read_25 : decode b_M_read 25 = .ok (.iload_n 2, 1) := by decide +kernel
theorem d_M_read_26 : decode b_M_read 26 = .ok (.invokevirtual 181, 3) := by decide +kernel
theorem d_M_read_29 : decode b_M_read 29 = .ok (.istore_n 3, 1) := by decide +kernel
theorem d_M_read_30 : decode b_M_read 30 = .ok (.aload_n 0, 1) := by decide +kernel
theorem d_M_read_31 : decode b_M_read 31 = .ok (.iconst 0, 1) := by decide +kernel
theorem d_M_read_32 : decode b_M_read 32 = .ok (.putfield 172, 3) := by decide +kernel
theorem d_M_read_35 : decode b_M_read 35 = .ok (.iload_n 3, 1) := by decide +kernel
theorem d_M_read_36 : decode b_M_read 36 = .ok (.ifCond .eq 15, 3) := by decide +kernel
theorem d_M_read_39 : decode b_M_read 39 = .ok (.iload_n 1, 1) := by decide +kernel
theorem d_M_read_40 : decode b_M_read 40 = .ok (.i2l, 1) := by decide +kernel
theorem d_M_read_41 : decode b_M_read 41 = .ok (.ldc2_w 87, 3) := by decide +kernel
theorem d_M_read_44 : decode b_M_read 44 = .ok (.lmul, 1) := by decide +kernel
theorem d_M_read_45 : decode b_M_read 45 = .ok (.iload_n 2, 1) := by decide +kernel
theorem d_M_read_46 : decode b_M_read 46 = .ok (.i2l, 1) := by decide +kernel
theorem d_M_read_47 : decode b_M_read 47 = .ok (.ladd, 1) := by decide +kernel
theorem d_M_read_48 : decode b_M_read 48 = .ok (.goto 6, 3) := by decide +kernel
theorem d_M_read_51 : decode b_M_read 51 = .ok (.ldc2_w 35, 3) := by decide +kernel
theorem d_M_read_54 : decode b_M_read 54 = .ok (.lreturn, 1) := by decide +kernel
theorem d_M_numberAt_0 : decode b_M_numberAt 0 = .ok (.iconst 0, 1) := by decide +kernel
theorem d_M_numberAt_1 : decode b_M_numberAt 1 = .ok (.istore_n 2, 1) := by decide +kernel
theorem d_M_numberAt_2 : decode b_M_numberAt 2 = .ok (.iload_n 1, 1) := by decide +kernel
theorem d_M_numberAt_3 : decode b_M_numberAt 3 = .ok (.iconst 1, 1) := by decide +kernel
theorem d_M_numberAt_4 : decode b_M_numberAt 4 = .ok (.iadd, 1) := by decide +kernel
theorem d_M_numberAt_5 : decode b_M_numberAt 5 = .ok (.istore_n 3, 1) := by decide +kernel
theorem d_M_numberAt_6 : decode b_M_numberAt 6 = .ok (.iload_n 3, 1) := by decide +kernel
theorem d_M_numberAt_7 : decode b_M_numberAt 7 = .ok (.iload_n 1, 1) := by decide +kernel
theorem d_M_numberAt_8 : decode b_M_numberAt 8 = .ok (.aload_n 0, 1) := by decide +kernel
theorem d_M_numberAt_9 : decode b_M_numberAt 9 = .ok (.iload_n 1, 1) := by decide +kernel
theorem d_M_numberAt_10 : decode b_M_numberAt 10 = .ok (.invokevirtual 175, 3) := by decide +kernel
theorem d_M_numberAt_13 : decode b_M_numberAt 13 = .ok (.iadd, 1) := by decide +kernel
theorem d_M_numberAt_14 : decode b_M_numberAt 14 = .ok (.if_icmp .gt 27, 3) := by decide +kernel
theorem d_M_numberAt_17 : decode b_M_numberAt 17 = .ok (.iload_n 3, 1) := by decide +kernel
theorem d_M_numberAt_18 : decode b_M_numberAt 18 = .ok (.iload_n 1, 1) := by decide +kernel
theorem d_M_numberAt_19 : decode b_M_numberAt 19 = .ok (.iconst 4, 1) := by decide +kernel
theorem d_M_numberAt_20 : decode b_M_numberAt 20 = .ok (.iadd, 1) := by decide +kernel
theorem d_M_numberAt_21 : decode b_M_numberAt 21 = .ok (.if_icmp .gt 20, 3) := by decide +kernel
theorem d_M_numberAt_24 : decode b_M_numberAt 24 = .ok (.iload_n 2, 1) := by decide +kernel
theorem d_M_numberAt_25 : decode b_M_numberAt 25 = .ok (.bipush 8, 2) := by decide +kernel
theorem d_M_numberAt_27 : decode b_M_numberAt 27 = .ok (.ishl, 1) := by decide +kernel
theorem d_M_numberAt_28 : decode b_M_numberAt 28 = .ok (.aload_n 0, 1) := by decide +kernel
theorem d_M_numberAt_29 : decode b_M_numberAt 29 = .ok (.iload_n 3, 1) := by decide +kernel
theorem d_M_numberAt_30 : decode b_M_numberAt 30 = .ok (.invokevirtual 175, 3) := by decide +kernel
theorem d_M_numberAt_33 : decode b_M_numberAt 33 = .ok (.ior, 1) := by decide +kernel
theorem d_M_numberAt_34 : decode b_M_numberAt 34 = .ok (.istore_n 2, 1) := by decide +kernel
theorem d_M_numberAt_35 : decode b_M_numberAt 35 = .ok (.iinc 3 1, 3) := by decide +kernel
theorem d_M_numberAt_38 : decode b_M_numberAt 38 = .ok (.goto (-32), 3) := by decide +kernel
theorem d_M_numberAt_41 : decode b_M_numberAt 41 = .ok (.iload_n 2, 1) := by decide +kernel
theorem d_M_numberAt_42 : decode b_M_numberAt 42 = .ok (.ireturn, 1) := by decide +kernel
theorem d_M_byteAt_0 : decode b_M_byteAt 0 = .ok (.iload_n 1, 1) := by decide +kernel
theorem d_M_byteAt_1 : decode b_M_byteAt 1 = .ok (.aload_n 0, 1) := by decide +kernel
theorem d_M_byteAt_2 : decode b_M_byteAt 2 = .ok (.getfield 172, 3) := by decide +kernel
theorem d_M_byteAt_5 : decode b_M_byteAt 5 = .ok (.if_icmp .ge 12, 3) := by decide +kernel
theorem d_M_byteAt_8 : decode b_M_byteAt 8 = .ok (.aload_n 0, 1) := by decide +kernel
theorem d_M_byteAt_9 : decode b_M_byteAt 9 = .ok (.getfield 29, 3) := by decide +kernel
theorem d_M_byteAt_12 : decode b_M_byteAt 12 = .ok (.iload_n 1, 1) := by decide +kernel
theorem d_M_byteAt_13 : decode b_M_byteAt 13 = .ok (.iaload, 1) := by decide +kernel
theorem d_M_byteAt_14 : decode b_M_byteAt 14 = .ok (.goto 4, 3) := by decide +kernel
theorem d_M_byteAt_17 : decode b_M_byteAt 17 = .ok (.iconst 0, 1) := by decide +kernel
theorem d_M_byteAt_18 : decode b_M_byteAt 18 = .ok (.ireturn, 1) := by decide +kernel
theorem d_M_same_0 : decode b_M_same 0 = .ok (.iload_n 1, 1) := by decide +kernel
theorem d_M_same_1 : decode b_M_same 1 = .ok (.ifCond .lt 7, 3) := by decide +kernel
theorem d_M_same_4 : decode b_M_same 4 = .ok (.iload_n 2, 1) := by decide +kernel
theorem d_M_same_5 : decode b_M_same 5 = .ok (.ifCond .ge 5, 3) := by decide +kernel
theorem d_M_same_8 : decode b_M_same 8 = .ok (.iconst 0, 1) := by decide +kernel
theorem d_M_same_9 : decode b_M_same 9 = .ok (.ireturn, 1) := by decide +kernel
theorem d_M_same_10 : decode b_M_same 10 = .ok (.aload_n 0, 1) := by decide +kernel
theorem d_M_same_11 : decode b_M_same 11 = .ok (.iload_n 1, 1) := by decide +kernel
theorem d_M_same_12 : decode b_M_same 12 = .ok (.iload_n 2, 1) := by decide +kernel
theorem d_M_same_13 : decode b_M_same 13 = .ok (.invokevirtual 168, 3) := by decide +kernel
theorem d_M_same_16 : decode b_M_same 16 = .ok (.aload_n 0, 1) := by decide +kernel
theorem d_M_same_17 : decode b_M_same 17 = .ok (.getfield 155, 3) := by decide +kernel
theorem d_M_same_20 : decode b_M_same 20 = .ok (.aload_n 0, 1) := by decide +kernel
theorem d_M_same_21 : decode b_M_same 21 = .ok (.getfield 172, 3) := by decide +kernel
theorem d_M_same_24 : decode b_M_same 24 = .ok (.if_icmp .ne 7, 3) := by decide +kernel
theorem d_M_same_27 : decode b_M_same 27 = .ok (.iconst 1, 1) := by decide +kernel
theorem d_M_same_28 : decode b_M_same 28 = .ok (.goto 4, 3) := by decide +kernel
theorem d_M_same_31 : decode b_M_same 31 = .ok (.iconst 0, 1) := by decide +kernel
theorem d_M_same_32 : decode b_M_same 32 = .ok (.istore_n 3, 1) := by decide +kernel
theorem d_M_same_33 : decode b_M_same 33 = .ok (.iconst 0, 1) := by decide +kernel
theorem d_M_same_34 : decode b_M_same 34 = .ok (.istore 4, 2) := by decide +kernel
theorem d_M_same_36 : decode b_M_same 36 = .ok (.iload 4, 2) := by decide +kernel
theorem d_M_same_38 : decode b_M_same 38 = .ok (.aload_n 0, 1) := by decide +kernel
theorem d_M_same_39 : decode b_M_same 39 = .ok (.getfield 155, 3) := by decide +kernel
theorem d_M_same_42 : decode b_M_same 42 = .ok (.if_icmp .ge 36, 3) := by decide +kernel
theorem d_M_same_45 : decode b_M_same 45 = .ok (.iload_n 3, 1) := by decide +kernel
theorem d_M_same_46 : decode b_M_same 46 = .ok (.ifCond .eq 32, 3) := by decide +kernel
theorem d_M_same_49 : decode b_M_same 49 = .ok (.aload_n 0, 1) := by decide +kernel
theorem d_M_same_50 : decode b_M_same 50 = .ok (.getfield 32, 3) := by decide +kernel
theorem d_M_same_53 : decode b_M_same 53 = .ok (.iload 4, 2) := by decide +kernel
theorem d_M_same_55 : decode b_M_same 55 = .ok (.iaload, 1) := by decide +kernel
theorem d_M_same_56 : decode b_M_same 56 = .ok (.aload_n 0, 1) := by decide +kernel
theorem d_M_same_57 : decode b_M_same 57 = .ok (.getfield 29, 3) := by decide +kernel
theorem d_M_same_60 : decode b_M_same 60 = .ok (.iload 4, 2) := by decide +kernel
theorem d_M_same_62 : decode b_M_same 62 = .ok (.iaload, 1) := by decide +kernel
theorem d_M_same_63 : decode b_M_same 63 = .ok (.if_icmp .ne 7, 3) := by decide +kernel
theorem d_M_same_66 : decode b_M_same 66 = .ok (.iconst 1, 1) := by decide +kernel
theorem d_M_same_67 : decode b_M_same 67 = .ok (.goto 4, 3) := by decide +kernel
theorem d_M_same_70 : decode b_M_same 70 = .ok (.iconst 0, 1) := by decide +kernel
theorem d_M_same_71 : decode b_M_same 71 = .ok (.istore_n 3, 1) := by decide +kernel
theorem d_M_same_72 : decode b_M_same 72 = .ok (.iinc 4 1, 3) := by decide +kernel
theorem d_M_same_75 : decode b_M_same 75 = .ok (.goto (-39), 3) := by decide +kernel
theorem d_M_same_78 : decode b_M_same 78 = .ok (.iload_n 3, 1) := by decide +kernel
theorem d_M_same_79 : decode b_M_same 79 = .ok (.ireturn, 1) := by decide +kernel
end
section
def f_M_thrown (g0 : sM)  : Option (Int32 × sM) := some (g0.1, g0)
abbrev rm_M_thrown : Room := { frames := 0, cells := 0, slots := 0, locals := 0 }
set_option maxHeartbeats 4000000 in
set_option maxRecDepth 100000 in
theorem k_M_thrown (l : Launch) (D : va_G) (A : Nat → Nat) (cc : Nat → ClassId) (g0 : sM)  (sz : Nat) (res : (Int32 × sM)) (hF : f_M_thrown g0  = some res) : Met l y_M_thrown (Cond.code y_M_thrown b_M_thrown 1 (some .int) :: wa) rm_M_thrown (pw D (wM A cc g0) (kM cc) [.ref (A 0)] sz) (va_Qi (fun r u => (r, u) = res) (bw D (wM A cc) (kM cc) (va_A (wM A cc g0) sz)) (va_A (wM A cc g0) sz)) 0 0 (va_A (wM A cc g0) sz) := by
  refine Met.ofW (cc := b_M_thrown) (maxL := 1) (ret := (some .int)) (by decide) rfl ?_
  intro p e s m args below meth c s₁ B hml hv
  obtain ⟨rfl, hsz, hP, hK, hD0, hN⟩ := hv
  have hx := B.exec
  have hb := B.bytes
  have hr := B.returns
  have hts := atoms_spec (ws := Cond.code y_M_thrown b_M_thrown 1 (some .int) :: wa) B.pre
  have hw : ∀ w ∈ wa, w.before _ s = true := fun w h => hts w (List.mem_cons_of_mem _ h)
  have hown : s.vm.findClass R_M = some m.cls := findClass_of_methodNamed B.named
  have hlocks := B.notSynchronized
  subst hsz
  have hD := hD0.self (sz := s.heap.size)
  generalize hAe : va_A (wM A cc g0) s.heap.size = AA at hD ⊢
  have hA : ∀ q : Nat, s.heap.size ≤ q → AA q := fun q h => by rw [← hAe]; exact Or.inr h
  have hS : va_S AA s.heap s.heap [] := va_S.rf
  have hl := lv_entry ([.ref (A 0)]) (n := 1) (Nat.le_of_ble_eq_true rfl)
  rw [lg_entry_eq]
  generalize (lg_sl ([.ref (A 0)]) ++ List.replicate (1 - (lg_sl ([.ref (A 0)])).length) Slot.unset).toArray = ls at hl ⊢
  have hl : lv_has ls 1 [(0, .ref (A 0))] := hl
  unfold f_M_thrown at hF
  refine lv_aload_n hx hb d_M_thrown_0 rfl (lv_at hl 0 rfl) ?_
  refine va_get (D := D) (ci := 3) (v := .int g0.1) (C := R_M) (T := T_M) (N := 13) hx hb hts in_M hown hK hP 0 rfl rfl 0 (by decide) (hw _ ww_534) (fun _ h9 => h9) rfl d_M_thrown_1 ?_
  obtain rfl := Option.some.inj hF
  exact W.iret hx hb hr (fun t ht hW => ⟨⟨_, _, rfl, rfl, bw_end hP hK hD ht hW⟩, hS.F ht⟩) hS.2.2 d_M_thrown_4
def f_M_full (g0 : sM) (a0 : Int32) : Option (Int32 × sM) := if a0 < 0 ∨ 6 ≤ Int32.toNatClampNeg a0 then none else (Option.bind (if (lg_cmp (g0.2.1 (Int32.toNatClampNeg a0)) (-1)) = 0 then (some (0) : Option (Int32)) else (some (1))) (fun j2 => some (j2, g0)))
abbrev rm_M_full : Room := { frames := 0, cells := 0, slots := 0, locals := 0 }
set_option maxHeartbeats 4000000 in
set_option maxRecDepth 100000 in
theorem k_M_full (l : Launch) (D : va_G) (A : Nat → Nat) (cc : Nat → ClassId) (g0 : sM) (a0 : Int32) (sz : Nat) (res : (Int32 × sM)) (hF : f_M_full g0 a0 = some res) : Met l y_M_full (Cond.code y_M_full b_M_full 2 (some .boolean) :: wa) rm_M_full (pw D (wM A cc g0) (kM cc) [.ref (A 0), .int a0] sz) (va_Qi (fun r u => (r, u) = res) (bw D (wM A cc) (kM cc) (va_A (wM A cc g0) sz)) (va_A (wM A cc g0) sz)) 0 0 (va_A (wM A cc g0) sz) := by
  refine Met.ofW (cc := b_M_full) (maxL := 2) (ret := (some .boolean)) (by decide) rfl ?_
  intro p e s m args below meth c s₁ B hml hv
  obtain ⟨rfl, hsz, hP, hK, hD0, hN⟩ := hv
  have hx := B.exec
  have hb := B.bytes
  have hr := B.returns
  have hts := atoms_spec (ws := Cond.code y_M_full b_M_full 2 (some .boolean) :: wa) B.pre
  have hw : ∀ w ∈ wa, w.before _ s = true := fun w h => hts w (List.mem_cons_of_mem _ h)
  have hown : s.vm.findClass R_M = some m.cls := findClass_of_methodNamed B.named
  have hlocks := B.notSynchronized
  subst hsz
  have hD := hD0.self (sz := s.heap.size)
  generalize hAe : va_A (wM A cc g0) s.heap.size = AA at hD ⊢
  have hA : ∀ q : Nat, s.heap.size ≤ q → AA q := fun q h => by rw [← hAe]; exact Or.inr h
  have hS : va_S AA s.heap s.heap [] := va_S.rf
  have hl := lv_entry ([.ref (A 0), .int a0]) (n := 2) (Nat.le_of_ble_eq_true rfl)
  rw [lg_entry_eq]
  generalize (lg_sl ([.ref (A 0), .int a0]) ++ List.replicate (2 - (lg_sl ([.ref (A 0), .int a0])).length) Slot.unset).toArray = ls at hl ⊢
  have hl : lv_has ls 2 [(0, .ref (A 0)), (1, .int a0)] := hl
  unfold f_M_full at hF
  refine lv_aload_n hx hb d_M_full_0 rfl (lv_at hl 0 rfl) ?_
  refine va_get (D := D) (ci := 3) (v := .ref (A 1)) (C := R_M) (T := T_M) (N := 13) hx hb hts in_M hown hK hP 0 rfl rfl 1 (by decide) (hw _ ww_535) (fun _ h9 => h9) rfl d_M_full_1 ?_
  refine lv_iload_n hx hb d_M_full_4 rfl (lv_at hl 1 rfl) ?_
  by_cases h1 : a0 < 0 ∨ 6 ≤ Int32.toNatClampNeg a0
  · rw [if_pos h1] at hF; cases hF
  have hF := (if_neg h1).symm.trans hF
  refine va_lald hx hb hK hP 1 0 rfl rfl h1 d_M_full_5 ?_
  refine lv_ldc2 (v := (-1)) hx hb hown (hw _ ww_533) d_M_full_6 ?_
  refine W.lcmp hx hb d_M_full_9 ?_
  obtain ⟨j2, q4, hF⟩ := Option.bind_eq_some_iff.mp hF
  have z_j2 : j2 = 0 ∨ j2 = 1 := by
    have h := q4
    (repeat' (split at h)) <;> (obtain rfl := Option.some.inj h; first | exact Or.inl rfl | exact Or.inr rfl)
  have k3 : ∀ (H : Heap) (locs : List Loc) (ls : Array Slot), va_P D vwC (wM A cc g0) H → va_D AA (wM A cc g0) → va_S AA s.heap H locs → lv_has ls 2 [] → W p l e rm_M_full s m ([Value.ref (A 0), Value.int a0] : List Value).toArray below meth c H locs 0 0 (MQ below (va_Qi (fun r u => (r, u) = res) (bw D (wM A cc) (kM cc) AA) AA) ([Value.ref (A 0), Value.int a0] : List Value).toArray s 0 0 AA) (F0 m 18 ls [.int j2]) := by
    intro H locs ls hP hD hS hl
    obtain rfl := Option.some.inj hF
    exact W.zret hx hb hr (nz_b z_j2) (fun t ht hW => ⟨⟨_, _, rfl, rfl, bw_end hP hK hD ht hW⟩, hS.F ht⟩) hS.2.2 d_M_full_18
  clear hF
  have hF := q4
  refine lv_if_eq hx hb d_M_full_10 (tgt := 17) (by decide) (fun h9 => ?_) (fun h9 => ?_)
  · have hF := (if_pos h9).symm.trans hF
    refine lv_iconst (v := 0) hx hb d_M_full_17 (by decide) ?_
    obtain rfl := Option.some.inj hF
    exact k3 _ _ ls hP hD hS (lv_sub hl [] rfl)
  · have hF := (if_neg h9).symm.trans hF
    refine lv_iconst (v := 1) hx hb d_M_full_13 (by decide) ?_
    refine lv_goto hx hb d_M_full_14 (tgt := 18) (by decide) ?_
    obtain rfl := Option.some.inj hF
    exact k3 _ _ ls hP hD hS (lv_sub hl [] rfl)
def f_M_lay (g0 : sM) (a0 : Int32) (a1 : Int64) : Option sM := if a0 < 0 ∨ 6 ≤ Int32.toNatClampNeg a0 then none else (if a0 < 0 ∨ 6 ≤ Int32.toNatClampNeg a0 then none else (some ((g0.1, (vp_updL g0.2.1 (Int32.toNatClampNeg a0) a1), (vp_updL g0.2.2.1 (Int32.toNatClampNeg a0) 0), g0.2.2.2.1, g0.2.2.2.2.1, g0.2.2.2.2.2.1, g0.2.2.2.2.2.2.1, g0.2.2.2.2.2.2.2.1, g0.2.2.2.2.2.2.2.2.1, g0.2.2.2.2.2.2.2.2.2.1, g0.2.2.2.2.2.2.2.2.2.2.1, g0.2.2.2.2.2.2.2.2.2.2.2.1, g0.2.2.2.2.2.2.2.2.2.2.2.2))))
abbrev rm_M_lay : Room := { frames := 0, cells := 0, slots := 0, locals := 0 }
set_option maxHeartbeats 4000000 in
set_option maxRecDepth 100000 in
theorem k_M_lay (l : Launch) (D : va_G) (A : Nat → Nat) (cc : Nat → ClassId) (g0 : sM) (a0 : Int32) (a1 : Int64) (sz : Nat) (res : sM) (hF : f_M_lay g0 a0 a1 = some res) : Met l y_M_lay (Cond.code y_M_lay b_M_lay 4 none :: wa) rm_M_lay (pw D (wM A cc g0) (kM cc) [.ref (A 0), .int a0, .long a1] sz) (va_Qv (fun u => u = res) (bw D (wM A cc) (kM cc) (va_A (wM A cc g0) sz)) (va_A (wM A cc g0) sz)) 0 0 (va_A (wM A cc g0) sz) := by
  refine Met.ofW (cc := b_M_lay) (maxL := 4) (ret := none) (by decide) rfl ?_
  intro p e s m args below meth c s₁ B hml hv
  obtain ⟨rfl, hsz, hP, hK, hD0, hN⟩ := hv
  have hx := B.exec
  have hb := B.bytes
  have hr := B.returns
  have hts := atoms_spec (ws := Cond.code y_M_lay b_M_lay 4 none :: wa) B.pre
  have hw : ∀ w ∈ wa, w.before _ s = true := fun w h => hts w (List.mem_cons_of_mem _ h)
  have hown : s.vm.findClass R_M = some m.cls := findClass_of_methodNamed B.named
  have hlocks := B.notSynchronized
  subst hsz
  have hD := hD0.self (sz := s.heap.size)
  generalize hAe : va_A (wM A cc g0) s.heap.size = AA at hD ⊢
  have hA : ∀ q : Nat, s.heap.size ≤ q → AA q := fun q h => by rw [← hAe]; exact Or.inr h
  have hS : va_S AA s.heap s.heap [] := va_S.rf
  have hl := lv_entry ([.ref (A 0), .int a0, .long a1]) (n := 4) (Nat.le_of_ble_eq_true rfl)
  rw [lg_entry_eq]
  generalize (lg_sl ([.ref (A 0), .int a0, .long a1]) ++ List.replicate (4 - (lg_sl ([.ref (A 0), .int a0, .long a1])).length) Slot.unset).toArray = ls at hl ⊢
  have hl : lv_has ls 4 [(0, .ref (A 0)), (1, .int a0), (2, .long a1)] := hl
  unfold f_M_lay at hF
  refine lv_aload_n hx hb d_M_lay_0 rfl (lv_at hl 0 rfl) ?_
  refine va_get (D := D) (ci := 3) (v := .ref (A 1)) (C := R_M) (T := T_M) (N := 13) hx hb hts in_M hown hK hP 0 rfl rfl 1 (by decide) (hw _ ww_535) (fun _ h9 => h9) rfl d_M_lay_1 ?_
  refine lv_iload_n hx hb d_M_lay_4 rfl (lv_at hl 1 rfl) ?_
  refine lv_lload_n hx hb d_M_lay_5 rfl (lv_at hl 2 rfl) ?_
  by_cases h1 : a0 < 0 ∨ 6 ≤ Int32.toNatClampNeg a0
  · rw [if_pos h1] at hF; cases hF
  have hF := (if_neg h1).symm.trans hF
  refine va_last hx hb hK hP hD hS 1 0 rfl rfl h1 d_M_lay_6 (fun H locs hP hD hS => ?_)
  have hP : va_P D vwC (wM A cc (g0.1, (vp_updL g0.2.1 (Int32.toNatClampNeg a0) a1), g0.2.2.1, g0.2.2.2.1, g0.2.2.2.2.1, g0.2.2.2.2.2.1, g0.2.2.2.2.2.2.1, g0.2.2.2.2.2.2.2.1, g0.2.2.2.2.2.2.2.2.1, g0.2.2.2.2.2.2.2.2.2.1, g0.2.2.2.2.2.2.2.2.2.2.1, g0.2.2.2.2.2.2.2.2.2.2.2.1, g0.2.2.2.2.2.2.2.2.2.2.2.2)) H := hP
  have hD : va_D AA (wM A cc (g0.1, (vp_updL g0.2.1 (Int32.toNatClampNeg a0) a1), g0.2.2.1, g0.2.2.2.1, g0.2.2.2.2.1, g0.2.2.2.2.2.1, g0.2.2.2.2.2.2.1, g0.2.2.2.2.2.2.2.1, g0.2.2.2.2.2.2.2.2.1, g0.2.2.2.2.2.2.2.2.2.1, g0.2.2.2.2.2.2.2.2.2.2.1, g0.2.2.2.2.2.2.2.2.2.2.2.1, g0.2.2.2.2.2.2.2.2.2.2.2.2)) := hD
  refine lv_aload_n hx hb d_M_lay_7 rfl (lv_at hl 0 rfl) ?_
  refine va_get (D := D) (ci := 3) (v := .ref (A 2)) (C := R_M) (T := T_M) (N := 13) hx hb hts in_M hown hK hP 0 rfl rfl 2 (by decide) (hw _ ww_536) (fun _ h9 => h9) rfl d_M_lay_8 ?_
  refine lv_iload_n hx hb d_M_lay_11 rfl (lv_at hl 1 rfl) ?_
  refine lv_lconst (v := 0) hx hb d_M_lay_12 (by decide) ?_
  by_cases h2 : a0 < 0 ∨ 6 ≤ Int32.toNatClampNeg a0
  · rw [if_pos h2] at hF; cases hF
  have hF := (if_neg h2).symm.trans hF
  refine va_last hx hb hK hP hD hS 2 1 rfl rfl h2 d_M_lay_13 (fun H locs hP hD hS => ?_)
  have hP : va_P D vwC (wM A cc (g0.1, (vp_updL g0.2.1 (Int32.toNatClampNeg a0) a1), (vp_updL g0.2.2.1 (Int32.toNatClampNeg a0) 0), g0.2.2.2.1, g0.2.2.2.2.1, g0.2.2.2.2.2.1, g0.2.2.2.2.2.2.1, g0.2.2.2.2.2.2.2.1, g0.2.2.2.2.2.2.2.2.1, g0.2.2.2.2.2.2.2.2.2.1, g0.2.2.2.2.2.2.2.2.2.2.1, g0.2.2.2.2.2.2.2.2.2.2.2.1, g0.2.2.2.2.2.2.2.2.2.2.2.2)) H := hP
  have hD : va_D AA (wM A cc (g0.1, (vp_updL g0.2.1 (Int32.toNatClampNeg a0) a1), (vp_updL g0.2.2.1 (Int32.toNatClampNeg a0) 0), g0.2.2.2.1, g0.2.2.2.2.1, g0.2.2.2.2.2.1, g0.2.2.2.2.2.2.1, g0.2.2.2.2.2.2.2.1, g0.2.2.2.2.2.2.2.2.1, g0.2.2.2.2.2.2.2.2.2.1, g0.2.2.2.2.2.2.2.2.2.2.1, g0.2.2.2.2.2.2.2.2.2.2.2.1, g0.2.2.2.2.2.2.2.2.2.2.2.2)) := hD
  obtain rfl := Option.some.inj hF
  exact W.vret hx hb hr (fun t ht hW => ⟨⟨_, rfl, rfl, bw_end hP hK hD ht hW⟩, hS.F ht⟩) hS.2.2 d_M_lay_14
def f_M_noSecret (g0 : sM) (a0 : Int32) : Option (Int32 × sM) := Option.bind (f_M_isSlot a0) (fun r1 => Option.bind (if r1 = 0 then (some (1) : Option (Int32)) else (if a0 < 0 ∨ 6 ≤ Int32.toNatClampNeg a0 then none else (if (lg_cmp (g0.2.2.1 (Int32.toNatClampNeg a0)) 0) = 0 then (some (2)) else (some (0))))) (fun j2 => some (j2, g0)))
abbrev rm_M_noSecret : Room := { frames := 1, cells := 0, slots := 0, locals := 20 }
set_option maxHeartbeats 4000000 in
set_option maxRecDepth 100000 in
theorem k_M_noSecret (l : Launch) (D : va_G) (A : Nat → Nat) (cc : Nat → ClassId) (g0 : sM) (a0 : Int32) (sz : Nat) (res : (Int32 × sM)) (hF : f_M_noSecret g0 a0 = some res) : Met l y_M_noSecret (Cond.code y_M_noSecret b_M_noSecret 2 (some .int) :: wa) rm_M_noSecret (pw D (wM A cc g0) (kM cc) [.ref (A 0), .int a0] sz) (va_Qi (fun r u => (r, u) = res) (bw D (wM A cc) (kM cc) (va_A (wM A cc g0) sz)) (va_A (wM A cc g0) sz)) 0 0 (va_A (wM A cc g0) sz) := by
  refine Met.ofW (cc := b_M_noSecret) (maxL := 2) (ret := (some .int)) (by decide) rfl ?_
  intro p e s m args below meth c s₁ B hml hv
  obtain ⟨rfl, hsz, hP, hK, hD0, hN⟩ := hv
  have hx := B.exec
  have hb := B.bytes
  have hr := B.returns
  have hts := atoms_spec (ws := Cond.code y_M_noSecret b_M_noSecret 2 (some .int) :: wa) B.pre
  have hw : ∀ w ∈ wa, w.before _ s = true := fun w h => hts w (List.mem_cons_of_mem _ h)
  have hown : s.vm.findClass R_M = some m.cls := findClass_of_methodNamed B.named
  have hlocks := B.notSynchronized
  subst hsz
  have hD := hD0.self (sz := s.heap.size)
  generalize hAe : va_A (wM A cc g0) s.heap.size = AA at hD ⊢
  have hA : ∀ q : Nat, s.heap.size ≤ q → AA q := fun q h => by rw [← hAe]; exact Or.inr h
  have hS : va_S AA s.heap s.heap [] := va_S.rf
  have hl := lv_entry ([.ref (A 0), .int a0]) (n := 2) (Nat.le_of_ble_eq_true rfl)
  rw [lg_entry_eq]
  generalize (lg_sl ([.ref (A 0), .int a0]) ++ List.replicate (2 - (lg_sl ([.ref (A 0), .int a0])).length) Slot.unset).toArray = ls at hl ⊢
  have hl : lv_has ls 2 [(0, .ref (A 0)), (1, .int a0)] := hl
  unfold f_M_noSecret at hF
  refine lv_iload_n hx hb d_M_noSecret_0 rfl (lv_at hl 1 rfl) ?_
  obtain ⟨r1, e_r1, hF⟩ := Option.bind_eq_some_iff.mp hF
  refine vp_callSi (va_runS (As := [.int a0]) (rest := []) ⟨hx, hb, hml, hown, hts⟩ (k_M_isSlot l a0 r1 e_r1) (va_cwS 1 hts (ga_S ww_582 ww_583 ww_4 ww_584) rfl rfl rfl (by decide +kernel) ⟨by decide, by decide⟩) (pcs_pre hN) rfl rfl hl.1 rfl (lv_room (Nat.le_of_ble_eq_true rfl)) d_M_noSecret_1 ⟨Nat.zero_le _, Nat.zero_le _⟩).run (fun z9 hz9 => ?_)
  obtain rfl : r1 = z9 := hz9.symm
  obtain ⟨j2, q4, hF⟩ := Option.bind_eq_some_iff.mp hF
  have k3 : ∀ (H : Heap) (locs : List Loc) (ls : Array Slot), va_P D vwC (wM A cc g0) H → va_D AA (wM A cc g0) → va_S AA s.heap H locs → lv_has ls 2 [] → W p l e rm_M_noSecret s m ([Value.ref (A 0), Value.int a0] : List Value).toArray below meth c H locs 0 0 (MQ below (va_Qi (fun r u => (r, u) = res) (bw D (wM A cc) (kM cc) AA) AA) ([Value.ref (A 0), Value.int a0] : List Value).toArray s 0 0 AA) (F0 m 27 ls [.int j2]) := by
    intro H locs ls hP hD hS hl
    obtain rfl := Option.some.inj hF
    exact W.iret hx hb hr (fun t ht hW => ⟨⟨_, _, rfl, rfl, bw_end hP hK hD ht hW⟩, hS.F ht⟩) hS.2.2 d_M_noSecret_27
  clear hF
  have hF := q4
  refine lv_if_ne hx hb d_M_noSecret_4 (tgt := 11) (by decide) (fun h9 => ?_) (fun h9 => ?_)
  · have hF := (if_neg h9).symm.trans hF
    refine lv_aload_n hx hb d_M_noSecret_11 rfl (lv_at hl 0 rfl) ?_
    refine va_get (D := D) (ci := 3) (v := .ref (A 2)) (C := R_M) (T := T_M) (N := 13) hx hb hts in_M hown hK hP 0 rfl rfl 2 (by decide) (hw _ ww_536) (fun _ h9 => h9) rfl d_M_noSecret_12 ?_
    refine lv_iload_n hx hb d_M_noSecret_15 rfl (lv_at hl 1 rfl) ?_
    by_cases h6 : a0 < 0 ∨ 6 ≤ Int32.toNatClampNeg a0
    · rw [if_pos h6] at hF; cases hF
    have hF := (if_neg h6).symm.trans hF
    refine va_lald hx hb hK hP 2 1 rfl rfl h6 d_M_noSecret_16 ?_
    refine lv_lconst (v := 0) hx hb d_M_noSecret_17 (by decide) ?_
    refine W.lcmp hx hb d_M_noSecret_18 ?_
    refine lv_if_ne hx hb d_M_noSecret_19 (tgt := 26) (by decide) (fun h9 => ?_) (fun h9 => ?_)
    · have hF := (if_neg h9).symm.trans hF
      refine lv_iconst (v := 0) hx hb d_M_noSecret_26 (by decide) ?_
      obtain rfl := Option.some.inj hF
      exact k3 _ _ ls hP hD hS (lv_sub hl [] rfl)
    · have hF := (if_pos h9).symm.trans hF
      refine lv_iconst (v := 2) hx hb d_M_noSecret_22 (by decide) ?_
      refine lv_goto hx hb d_M_noSecret_23 (tgt := 27) (by decide) ?_
      obtain rfl := Option.some.inj hF
      exact k3 _ _ ls hP hD hS (lv_sub hl [] rfl)
  · have hF := (if_pos h9).symm.trans hF
    refine lv_iconst (v := 1) hx hb d_M_noSecret_7 (by decide) ?_
    refine lv_goto hx hb d_M_noSecret_8 (tgt := 27) (by decide) ?_
    obtain rfl := Option.some.inj hF
    exact k3 _ _ ls hP hD hS (lv_sub hl [] rfl)
def f_M_secret (g0 : sM) (a0 : Int32) (a1 : Int32) : Option (Int64 × sM) := Option.bind (f_M_isSlot a0) (fun r1 => Option.bind (if r1 = 0 then (some (1) : Option (Int32)) else (if a1 < 1 then (some (2)) else (if (lg_cmp (Int32.toInt64 a1) 1073729077) < 0 then (some (0)) else (some (2))))) (fun j2 => if j2 = 0 then (if a0 < 0 ∨ 6 ≤ Int32.toNatClampNeg a0 then none else (Option.bind (f_M_g ) (fun r7 => Option.bind (f_M_times (Int32.toInt64 a1) r7) (fun r8 => if a0 < 0 ∨ 6 ≤ Int32.toNatClampNeg a0 then none else (if a0 < 0 ∨ 6 ≤ Int32.toNatClampNeg a0 then none else (Option.bind (f_M_codeOf ((vp_updL g0.2.1 (Int32.toNatClampNeg a0) r8) (Int32.toNatClampNeg a0))) (fun r11 => some (r11, (j2, (vp_updL g0.2.1 (Int32.toNatClampNeg a0) r8), (vp_updL g0.2.2.1 (Int32.toNatClampNeg a0) (Int32.toInt64 a1)), g0.2.2.2.1, g0.2.2.2.2.1, g0.2.2.2.2.2.1, g0.2.2.2.2.2.2.1, g0.2.2.2.2.2.2.2.1, g0.2.2.2.2.2.2.2.2.1, g0.2.2.2.2.2.2.2.2.2.1, g0.2.2.2.2.2.2.2.2.2.2.1, g0.2.2.2.2.2.2.2.2.2.2.2.1, g0.2.2.2.2.2.2.2.2.2.2.2.2))))))))) else (some (0, (j2, g0.2.1, g0.2.2.1, g0.2.2.2.1, g0.2.2.2.2.1, g0.2.2.2.2.2.1, g0.2.2.2.2.2.2.1, g0.2.2.2.2.2.2.2.1, g0.2.2.2.2.2.2.2.2.1, g0.2.2.2.2.2.2.2.2.2.1, g0.2.2.2.2.2.2.2.2.2.2.1, g0.2.2.2.2.2.2.2.2.2.2.2.1, g0.2.2.2.2.2.2.2.2.2.2.2.2)))))
abbrev rm_M_secret : Room := { frames := 5, cells := 0, slots := 0, locals := 147 }
set_option maxHeartbeats 4000000 in
set_option maxRecDepth 100000 in
theorem k_M_secret (l : Launch) (D : va_G) (A : Nat → Nat) (cc : Nat → ClassId) (g0 : sM) (a0 : Int32) (a1 : Int32) (sz : Nat) (res : (Int64 × sM)) (hF : f_M_secret g0 a0 a1 = some res) : Met l y_M_secret (Cond.code y_M_secret b_M_secret 3 (some .long) :: wa) rm_M_secret (pw D (wM A cc g0) (kM cc) [.ref (A 0), .int a0, .int a1] sz) (va_Ql (fun r u => (r, u) = res) (bw D (wM A cc) (kM cc) (va_A (wM A cc g0) sz)) (va_A (wM A cc g0) sz)) 0 0 (va_A (wM A cc g0) sz) := by
  refine Met.ofW (cc := b_M_secret) (maxL := 3) (ret := (some .long)) (by decide) rfl ?_
  intro p e s m args below meth c s₁ B hml hv
  obtain ⟨rfl, hsz, hP, hK, hD0, hN⟩ := hv
  have hx := B.exec
  have hb := B.bytes
  have hr := B.returns
  have hts := atoms_spec (ws := Cond.code y_M_secret b_M_secret 3 (some .long) :: wa) B.pre
  have hw : ∀ w ∈ wa, w.before _ s = true := fun w h => hts w (List.mem_cons_of_mem _ h)
  have hown : s.vm.findClass R_M = some m.cls := findClass_of_methodNamed B.named
  have hlocks := B.notSynchronized
  subst hsz
  have hD := hD0.self (sz := s.heap.size)
  generalize hAe : va_A (wM A cc g0) s.heap.size = AA at hD ⊢
  have hA : ∀ q : Nat, s.heap.size ≤ q → AA q := fun q h => by rw [← hAe]; exact Or.inr h
  have hS : va_S AA s.heap s.heap [] := va_S.rf
  have hl := lv_entry ([.ref (A 0), .int a0, .int a1]) (n := 3) (Nat.le_of_ble_eq_true rfl)
  rw [lg_entry_eq]
  generalize (lg_sl ([.ref (A 0), .int a0, .int a1]) ++ List.replicate (3 - (lg_sl ([.ref (A 0), .int a0, .int a1])).length) Slot.unset).toArray = ls at hl ⊢
  have hl : lv_has ls 3 [(0, .ref (A 0)), (1, .int a0), (2, .int a1)] := hl
  unfold f_M_secret at hF
  refine lv_aload_n hx hb d_M_secret_0 rfl (lv_at hl 0 rfl) ?_
  refine lv_iload_n hx hb d_M_secret_1 rfl (lv_at hl 1 rfl) ?_
  obtain ⟨r1, e_r1, hF⟩ := Option.bind_eq_some_iff.mp hF
  refine vp_callSi (va_runS (As := [.int a0]) (rest := [.ref (A 0)]) ⟨hx, hb, hml, hown, hts⟩ (k_M_isSlot l a0 r1 e_r1) (va_cwS 1 hts (ga_S ww_582 ww_583 ww_4 ww_584) rfl rfl rfl (by decide +kernel) ⟨by decide, by decide⟩) (pcs_pre hN) rfl rfl hl.1 rfl (lv_room (Nat.le_of_ble_eq_true rfl)) d_M_secret_2 ⟨Nat.zero_le _, Nat.zero_le _⟩).run (fun z9 hz9 => ?_)
  obtain rfl : r1 = z9 := hz9.symm
  obtain ⟨j2, q4, hF⟩ := Option.bind_eq_some_iff.mp hF
  have k3 : ∀ (H : Heap) (locs : List Loc) (ls : Array Slot), va_P D vwC (wM A cc g0) H → va_D AA (wM A cc g0) → va_S AA s.heap H locs → lv_has ls 3 [(0, .ref (A 0)), (1, .int a0), (2, .int a1)] → W p l e rm_M_secret s m ([Value.ref (A 0), Value.int a0, Value.int a1] : List Value).toArray below meth c H locs 0 0 (MQ below (va_Ql (fun r u => (r, u) = res) (bw D (wM A cc) (kM cc) AA) AA) ([Value.ref (A 0), Value.int a0, Value.int a1] : List Value).toArray s 0 0 AA) (F0 m 31 ls [.int j2, .ref (A 0)]) := by
    intro H locs ls hP hD hS hl
    refine va_put (D := D) (ci := 3) (v := .int j2) (ty := .int) (C := R_M) (T := T_M) (N := 13) hx hb hts in_M ft_M ft_M_ok fn_M hown hK hP hD hS 0 rfl rfl 0 (by decide) (hw _ ww_534) (fun _ h9 => h9) rfl (by decide +kernel) rfl rfl (Nat.le_of_ble_eq_true rfl) d_M_secret_31 (fun H locs hP hD hS => ?_)
    have hP : va_P D vwC (wM A cc (j2, g0.2.1, g0.2.2.1, g0.2.2.2.1, g0.2.2.2.2.1, g0.2.2.2.2.2.1, g0.2.2.2.2.2.2.1, g0.2.2.2.2.2.2.2.1, g0.2.2.2.2.2.2.2.2.1, g0.2.2.2.2.2.2.2.2.2.1, g0.2.2.2.2.2.2.2.2.2.2.1, g0.2.2.2.2.2.2.2.2.2.2.2.1, g0.2.2.2.2.2.2.2.2.2.2.2.2)) H := hP
    have hD : va_D AA (wM A cc (j2, g0.2.1, g0.2.2.1, g0.2.2.2.1, g0.2.2.2.2.1, g0.2.2.2.2.2.1, g0.2.2.2.2.2.2.1, g0.2.2.2.2.2.2.2.1, g0.2.2.2.2.2.2.2.2.1, g0.2.2.2.2.2.2.2.2.2.1, g0.2.2.2.2.2.2.2.2.2.2.1, g0.2.2.2.2.2.2.2.2.2.2.2.1, g0.2.2.2.2.2.2.2.2.2.2.2.2)) := hD
    refine lv_aload_n hx hb d_M_secret_34 rfl (lv_at hl 0 rfl) ?_
    refine va_get (D := D) (ci := 3) (v := .int j2) (C := R_M) (T := T_M) (N := 13) hx hb hts in_M hown hK hP 0 rfl rfl 0 (by decide) (hw _ ww_534) (fun _ h9 => h9) rfl d_M_secret_35 ?_
    refine lv_if_eq hx hb d_M_secret_38 (tgt := 43) (by decide) (fun h9 => ?_) (fun h9 => ?_)
    · have hF := (if_pos h9).symm.trans hF
      refine lv_aload_n hx hb d_M_secret_43 rfl (lv_at hl 0 rfl) ?_
      refine va_get (D := D) (ci := 3) (v := .ref (A 2)) (C := R_M) (T := T_M) (N := 13) hx hb hts in_M hown hK hP 0 rfl rfl 2 (by decide) (hw _ ww_536) (fun _ h9 => h9) rfl d_M_secret_44 ?_
      refine lv_iload_n hx hb d_M_secret_47 rfl (lv_at hl 1 rfl) ?_
      refine lv_iload_n hx hb d_M_secret_48 rfl (lv_at hl 2 rfl) ?_
      refine lv_i2l (v := Int32.toInt64 a1) hx hb d_M_secret_49 rfl ?_
      by_cases h6 : a0 < 0 ∨ 6 ≤ Int32.toNatClampNeg a0
      · rw [if_pos h6] at hF; cases hF
      have hF := (if_neg h6).symm.trans hF
      refine va_last hx hb hK hP hD hS 2 1 rfl rfl h6 d_M_secret_50 (fun H locs hP hD hS => ?_)
      have hP : va_P D vwC (wM A cc (j2, g0.2.1, (vp_updL g0.2.2.1 (Int32.toNatClampNeg a0) (Int32.toInt64 a1)), g0.2.2.2.1, g0.2.2.2.2.1, g0.2.2.2.2.2.1, g0.2.2.2.2.2.2.1, g0.2.2.2.2.2.2.2.1, g0.2.2.2.2.2.2.2.2.1, g0.2.2.2.2.2.2.2.2.2.1, g0.2.2.2.2.2.2.2.2.2.2.1, g0.2.2.2.2.2.2.2.2.2.2.2.1, g0.2.2.2.2.2.2.2.2.2.2.2.2)) H := hP
      have hD : va_D AA (wM A cc (j2, g0.2.1, (vp_updL g0.2.2.1 (Int32.toNatClampNeg a0) (Int32.toInt64 a1)), g0.2.2.2.1, g0.2.2.2.2.1, g0.2.2.2.2.2.1, g0.2.2.2.2.2.2.1, g0.2.2.2.2.2.2.2.1, g0.2.2.2.2.2.2.2.2.1, g0.2.2.2.2.2.2.2.2.2.1, g0.2.2.2.2.2.2.2.2.2.2.1, g0.2.2.2.2.2.2.2.2.2.2.2.1, g0.2.2.2.2.2.2.2.2.2.2.2.2)) := hD
      refine lv_aload_n hx hb d_M_secret_51 rfl (lv_at hl 0 rfl) ?_
      refine va_get (D := D) (ci := 3) (v := .ref (A 1)) (C := R_M) (T := T_M) (N := 13) hx hb hts in_M hown hK hP 0 rfl rfl 1 (by decide) (hw _ ww_535) (fun _ h9 => h9) rfl d_M_secret_52 ?_
      refine lv_iload_n hx hb d_M_secret_55 rfl (lv_at hl 1 rfl) ?_
      refine lv_iload_n hx hb d_M_secret_56 rfl (lv_at hl 2 rfl) ?_
      refine lv_i2l (v := Int32.toInt64 a1) hx hb d_M_secret_57 rfl ?_
      obtain ⟨r7, e_r7, hF⟩ := Option.bind_eq_some_iff.mp hF
      refine vp_callSl (va_runS (As := []) (rest := [.long (Int32.toInt64 a1), .int a0, .ref (A 1)]) ⟨hx, hb, hml, hown, hts⟩ (k_M_g l  r7 e_r7) (va_cwS 0 hts (ga_S ww_586 ww_587 ww_4 ww_588) rfl rfl rfl (by decide +kernel) ⟨by decide, by decide⟩) (pcs_pre hN) rfl rfl hl.1 rfl (lv_room (Nat.le_of_ble_eq_true rfl)) d_M_secret_58 ⟨Nat.zero_le _, Nat.zero_le _⟩).run (fun z9 hz9 => ?_)
      obtain rfl : r7 = z9 := hz9.symm
      obtain ⟨r8, e_r8, hF⟩ := Option.bind_eq_some_iff.mp hF
      refine vp_callSl (va_runS (As := [.long (Int32.toInt64 a1), .long r7]) (rest := [.int a0, .ref (A 1)]) ⟨hx, hb, hml, hown, hts⟩ (k_M_times l (Int32.toInt64 a1) r7 r8 e_r8) (va_cwS 2 hts (ga_S ww_590 ww_591 ww_4 ww_592) rfl rfl rfl (by decide +kernel) ⟨by decide, by decide⟩) (pcs_pre hN) rfl rfl hl.1 rfl (lv_room (Nat.le_of_ble_eq_true rfl)) d_M_secret_61 ⟨Nat.zero_le _, Nat.zero_le _⟩).run (fun z9 hz9 => ?_)
      obtain rfl : r8 = z9 := hz9.symm
      by_cases h9 : a0 < 0 ∨ 6 ≤ Int32.toNatClampNeg a0
      · rw [if_pos h9] at hF; cases hF
      have hF := (if_neg h9).symm.trans hF
      refine va_last hx hb hK hP hD hS 1 0 rfl rfl h9 d_M_secret_64 (fun H locs hP hD hS => ?_)
      have hP : va_P D vwC (wM A cc (j2, (vp_updL g0.2.1 (Int32.toNatClampNeg a0) r8), (vp_updL g0.2.2.1 (Int32.toNatClampNeg a0) (Int32.toInt64 a1)), g0.2.2.2.1, g0.2.2.2.2.1, g0.2.2.2.2.2.1, g0.2.2.2.2.2.2.1, g0.2.2.2.2.2.2.2.1, g0.2.2.2.2.2.2.2.2.1, g0.2.2.2.2.2.2.2.2.2.1, g0.2.2.2.2.2.2.2.2.2.2.1, g0.2.2.2.2.2.2.2.2.2.2.2.1, g0.2.2.2.2.2.2.2.2.2.2.2.2)) H := hP
      have hD : va_D AA (wM A cc (j2, (vp_updL g0.2.1 (Int32.toNatClampNeg a0) r8), (vp_updL g0.2.2.1 (Int32.toNatClampNeg a0) (Int32.toInt64 a1)), g0.2.2.2.1, g0.2.2.2.2.1, g0.2.2.2.2.2.1, g0.2.2.2.2.2.2.1, g0.2.2.2.2.2.2.2.1, g0.2.2.2.2.2.2.2.2.1, g0.2.2.2.2.2.2.2.2.2.1, g0.2.2.2.2.2.2.2.2.2.2.1, g0.2.2.2.2.2.2.2.2.2.2.2.1, g0.2.2.2.2.2.2.2.2.2.2.2.2)) := hD
      refine lv_aload_n hx hb d_M_secret_65 rfl (lv_at hl 0 rfl) ?_
      refine va_get (D := D) (ci := 3) (v := .ref (A 1)) (C := R_M) (T := T_M) (N := 13) hx hb hts in_M hown hK hP 0 rfl rfl 1 (by decide) (hw _ ww_535) (fun _ h9 => h9) rfl d_M_secret_66 ?_
      refine lv_iload_n hx hb d_M_secret_69 rfl (lv_at hl 1 rfl) ?_
      by_cases h10 : a0 < 0 ∨ 6 ≤ Int32.toNatClampNeg a0
      · rw [if_pos h10] at hF; cases hF
      have hF := (if_neg h10).symm.trans hF
      refine va_lald hx hb hK hP 1 0 rfl rfl h10 d_M_secret_70 ?_
      obtain ⟨r11, e_r11, hF⟩ := Option.bind_eq_some_iff.mp hF
      refine vp_callSl (va_runS (As := [.long ((vp_updL g0.2.1 (Int32.toNatClampNeg a0) r8) (Int32.toNatClampNeg a0))]) (rest := []) ⟨hx, hb, hml, hown, hts⟩ (k_M_codeOf l ((vp_updL g0.2.1 (Int32.toNatClampNeg a0) r8) (Int32.toNatClampNeg a0)) r11 e_r11) (va_cwS 1 hts (ga_S ww_615 ww_616 ww_4 ww_617) rfl rfl rfl (by decide +kernel) ⟨by decide, by decide⟩) (pcs_pre hN) rfl rfl hl.1 rfl (lv_room (Nat.le_of_ble_eq_true rfl)) d_M_secret_71 ⟨Nat.zero_le _, Nat.zero_le _⟩).run (fun z9 hz9 => ?_)
      obtain rfl : r11 = z9 := hz9.symm
      obtain rfl := Option.some.inj hF
      exact W.lret hx hb hr (fun t ht hW => ⟨⟨_, _, rfl, rfl, bw_end hP hK hD ht hW⟩, hS.F ht⟩) hS.2.2 d_M_secret_74
    · have hF := (if_neg h9).symm.trans hF
      refine lv_lconst (v := 0) hx hb d_M_secret_41 (by decide) ?_
      obtain rfl := Option.some.inj hF
      exact W.lret hx hb hr (fun t ht hW => ⟨⟨_, _, rfl, rfl, bw_end hP hK hD ht hW⟩, hS.F ht⟩) hS.2.2 d_M_secret_42
  clear hF
  have hF := q4
  refine lv_if_ne hx hb d_M_secret_5 (tgt := 12) (by decide) (fun h9 => ?_) (fun h9 => ?_)
  · have hF := (if_neg h9).symm.trans hF
    refine lv_iload_n hx hb d_M_secret_12 rfl (lv_at hl 2 rfl) ?_
    refine lv_iconst (v := 1) hx hb d_M_secret_13 (by decide) ?_
    refine lv_icmp_lt hx hb d_M_secret_14 (tgt := 26) (by decide) (fun h9 => ?_) (fun h9 => ?_)
    · have hF := (if_pos h9).symm.trans hF
      refine lv_iconst (v := 2) hx hb d_M_secret_26 (by decide) ?_
      refine lv_goto hx hb d_M_secret_27 (tgt := 31) (by decide) ?_
      obtain rfl := Option.some.inj hF
      exact k3 _ _ ls hP hD hS (lv_sub hl [0, 1, 2] rfl)
    · have hF := (if_neg h9).symm.trans hF
      refine lv_iload_n hx hb d_M_secret_17 rfl (lv_at hl 2 rfl) ?_
      refine lv_i2l (v := Int32.toInt64 a1) hx hb d_M_secret_18 rfl ?_
      refine lv_ldc2 (v := 1073729077) hx hb hown (hw _ ww_585) d_M_secret_19 ?_
      refine W.lcmp hx hb d_M_secret_22 ?_
      refine lv_if_lt hx hb d_M_secret_23 (tgt := 30) (by decide) (fun h9 => ?_) (fun h9 => ?_)
      · have hF := (if_pos h9).symm.trans hF
        refine lv_iconst (v := 0) hx hb d_M_secret_30 (by decide) ?_
        obtain rfl := Option.some.inj hF
        exact k3 _ _ ls hP hD hS (lv_sub hl [0, 1, 2] rfl)
      · have hF := (if_neg h9).symm.trans hF
        refine lv_iconst (v := 2) hx hb d_M_secret_26 (by decide) ?_
        refine lv_goto hx hb d_M_secret_27 (tgt := 31) (by decide) ?_
        obtain rfl := Option.some.inj hF
        exact k3 _ _ ls hP hD hS (lv_sub hl [0, 1, 2] rfl)
  · have hF := (if_pos h9).symm.trans hF
    refine lv_iconst (v := 1) hx hb d_M_secret_8 (by decide) ?_
    refine lv_goto hx hb d_M_secret_9 (tgt := 31) (by decide) ?_
    obtain rfl := Option.some.inj hF
    exact k3 _ _ ls hP hD hS (lv_sub hl [0, 1, 2] rfl)
def f_M_code (g0 : sM) (a0 : Int32) : Option (Int64 × sM) := Option.bind (f_M_isSlot a0) (fun r1 => Option.bind (if r1 = 0 then (some (1) : Option (Int32)) else (some (0))) (fun j2 => Option.bind (if j2 = 0 then (if a0 < 0 ∨ 6 ≤ Int32.toNatClampNeg a0 then none else (Option.bind (f_M_codeOf (g0.2.1 (Int32.toNatClampNeg a0))) (fun r11 => some (r11))) : Option (Int64)) else (some (0))) (fun j6 => some (j6, (j2, g0.2.1, g0.2.2.1, g0.2.2.2.1, g0.2.2.2.2.1, g0.2.2.2.2.2.1, g0.2.2.2.2.2.2.1, g0.2.2.2.2.2.2.2.1, g0.2.2.2.2.2.2.2.2.1, g0.2.2.2.2.2.2.2.2.2.1, g0.2.2.2.2.2.2.2.2.2.2.1, g0.2.2.2.2.2.2.2.2.2.2.2.1, g0.2.2.2.2.2.2.2.2.2.2.2.2)))))
abbrev rm_M_code : Room := { frames := 2, cells := 0, slots := 0, locals := 42 }
set_option maxHeartbeats 4000000 in
set_option maxRecDepth 100000 in
theorem k_M_code (l : Launch) (D : va_G) (A : Nat → Nat) (cc : Nat → ClassId) (g0 : sM) (a0 : Int32) (sz : Nat) (res : (Int64 × sM)) (hF : f_M_code g0 a0 = some res) : Met l y_M_code (Cond.code y_M_code b_M_code 2 (some .long) :: wa) rm_M_code (pw D (wM A cc g0) (kM cc) [.ref (A 0), .int a0] sz) (va_Ql (fun r u => (r, u) = res) (bw D (wM A cc) (kM cc) (va_A (wM A cc g0) sz)) (va_A (wM A cc g0) sz)) 0 0 (va_A (wM A cc g0) sz) := by
  refine Met.ofW (cc := b_M_code) (maxL := 2) (ret := (some .long)) (by decide) rfl ?_
  intro p e s m args below meth c s₁ B hml hv
  obtain ⟨rfl, hsz, hP, hK, hD0, hN⟩ := hv
  have hx := B.exec
  have hb := B.bytes
  have hr := B.returns
  have hts := atoms_spec (ws := Cond.code y_M_code b_M_code 2 (some .long) :: wa) B.pre
  have hw : ∀ w ∈ wa, w.before _ s = true := fun w h => hts w (List.mem_cons_of_mem _ h)
  have hown : s.vm.findClass R_M = some m.cls := findClass_of_methodNamed B.named
  have hlocks := B.notSynchronized
  subst hsz
  have hD := hD0.self (sz := s.heap.size)
  generalize hAe : va_A (wM A cc g0) s.heap.size = AA at hD ⊢
  have hA : ∀ q : Nat, s.heap.size ≤ q → AA q := fun q h => by rw [← hAe]; exact Or.inr h
  have hS : va_S AA s.heap s.heap [] := va_S.rf
  have hl := lv_entry ([.ref (A 0), .int a0]) (n := 2) (Nat.le_of_ble_eq_true rfl)
  rw [lg_entry_eq]
  generalize (lg_sl ([.ref (A 0), .int a0]) ++ List.replicate (2 - (lg_sl ([.ref (A 0), .int a0])).length) Slot.unset).toArray = ls at hl ⊢
  have hl : lv_has ls 2 [(0, .ref (A 0)), (1, .int a0)] := hl
  unfold f_M_code at hF
  refine lv_aload_n hx hb d_M_code_0 rfl (lv_at hl 0 rfl) ?_
  refine lv_iload_n hx hb d_M_code_1 rfl (lv_at hl 1 rfl) ?_
  obtain ⟨r1, e_r1, hF⟩ := Option.bind_eq_some_iff.mp hF
  refine vp_callSi (va_runS (As := [.int a0]) (rest := [.ref (A 0)]) ⟨hx, hb, hml, hown, hts⟩ (k_M_isSlot l a0 r1 e_r1) (va_cwS 1 hts (ga_S ww_582 ww_583 ww_4 ww_584) rfl rfl rfl (by decide +kernel) ⟨by decide, by decide⟩) (pcs_pre hN) rfl rfl hl.1 rfl (lv_room (Nat.le_of_ble_eq_true rfl)) d_M_code_2 ⟨Nat.zero_le _, Nat.zero_le _⟩).run (fun z9 hz9 => ?_)
  obtain rfl : r1 = z9 := hz9.symm
  obtain ⟨j2, q4, hF⟩ := Option.bind_eq_some_iff.mp hF
  have z_j2 : j2 = 0 ∨ j2 = 1 := by
    have h := q4
    (repeat' (split at h)) <;> (obtain rfl := Option.some.inj h; first | exact Or.inl rfl | exact Or.inr rfl)
  have k3 : ∀ (H : Heap) (locs : List Loc) (ls : Array Slot), va_P D vwC (wM A cc g0) H → va_D AA (wM A cc g0) → va_S AA s.heap H locs → lv_has ls 2 [(0, .ref (A 0)), (1, .int a0)] → W p l e rm_M_code s m ([Value.ref (A 0), Value.int a0] : List Value).toArray below meth c H locs 0 0 (MQ below (va_Ql (fun r u => (r, u) = res) (bw D (wM A cc) (kM cc) AA) AA) ([Value.ref (A 0), Value.int a0] : List Value).toArray s 0 0 AA) (F0 m 13 ls [.int j2, .ref (A 0)]) := by
    intro H locs ls hP hD hS hl
    refine va_put (D := D) (ci := 3) (v := .int j2) (ty := .int) (C := R_M) (T := T_M) (N := 13) hx hb hts in_M ft_M ft_M_ok fn_M hown hK hP hD hS 0 rfl rfl 0 (by decide) (hw _ ww_534) (fun _ h9 => h9) rfl (by decide +kernel) rfl rfl (Nat.le_of_ble_eq_true rfl) d_M_code_13 (fun H locs hP hD hS => ?_)
    have hP : va_P D vwC (wM A cc (j2, g0.2.1, g0.2.2.1, g0.2.2.2.1, g0.2.2.2.2.1, g0.2.2.2.2.2.1, g0.2.2.2.2.2.2.1, g0.2.2.2.2.2.2.2.1, g0.2.2.2.2.2.2.2.2.1, g0.2.2.2.2.2.2.2.2.2.1, g0.2.2.2.2.2.2.2.2.2.2.1, g0.2.2.2.2.2.2.2.2.2.2.2.1, g0.2.2.2.2.2.2.2.2.2.2.2.2)) H := hP
    have hD : va_D AA (wM A cc (j2, g0.2.1, g0.2.2.1, g0.2.2.2.1, g0.2.2.2.2.1, g0.2.2.2.2.2.1, g0.2.2.2.2.2.2.1, g0.2.2.2.2.2.2.2.1, g0.2.2.2.2.2.2.2.2.1, g0.2.2.2.2.2.2.2.2.2.1, g0.2.2.2.2.2.2.2.2.2.2.1, g0.2.2.2.2.2.2.2.2.2.2.2.1, g0.2.2.2.2.2.2.2.2.2.2.2.2)) := hD
    refine lv_aload_n hx hb d_M_code_16 rfl (lv_at hl 0 rfl) ?_
    refine va_get (D := D) (ci := 3) (v := .int j2) (C := R_M) (T := T_M) (N := 13) hx hb hts in_M hown hK hP 0 rfl rfl 0 (by decide) (hw _ ww_534) (fun _ h9 => h9) rfl d_M_code_17 ?_
    obtain ⟨j6, q8, hF⟩ := Option.bind_eq_some_iff.mp hF
    have k7 : ∀ (H : Heap) (locs : List Loc) (ls : Array Slot), va_P D vwC (wM A cc (j2, g0.2.1, g0.2.2.1, g0.2.2.2.1, g0.2.2.2.2.1, g0.2.2.2.2.2.1, g0.2.2.2.2.2.2.1, g0.2.2.2.2.2.2.2.1, g0.2.2.2.2.2.2.2.2.1, g0.2.2.2.2.2.2.2.2.2.1, g0.2.2.2.2.2.2.2.2.2.2.1, g0.2.2.2.2.2.2.2.2.2.2.2.1, g0.2.2.2.2.2.2.2.2.2.2.2.2)) H → va_D AA (wM A cc (j2, g0.2.1, g0.2.2.1, g0.2.2.2.1, g0.2.2.2.2.1, g0.2.2.2.2.2.1, g0.2.2.2.2.2.2.1, g0.2.2.2.2.2.2.2.1, g0.2.2.2.2.2.2.2.2.1, g0.2.2.2.2.2.2.2.2.2.1, g0.2.2.2.2.2.2.2.2.2.2.1, g0.2.2.2.2.2.2.2.2.2.2.2.1, g0.2.2.2.2.2.2.2.2.2.2.2.2)) → va_S AA s.heap H locs → lv_has ls 2 [] → W p l e rm_M_code s m ([Value.ref (A 0), Value.int a0] : List Value).toArray below meth c H locs 0 0 (MQ below (va_Ql (fun r u => (r, u) = res) (bw D (wM A cc) (kM cc) AA) AA) ([Value.ref (A 0), Value.int a0] : List Value).toArray s 0 0 AA) (F0 m 36 ls [.long j6]) := by
      intro H locs ls hP hD hS hl
      obtain rfl := Option.some.inj hF
      exact W.lret hx hb hr (fun t ht hW => ⟨⟨_, _, rfl, rfl, bw_end hP hK hD ht hW⟩, hS.F ht⟩) hS.2.2 d_M_code_36
    clear hF
    have hF := q8
    refine lv_if_ne hx hb d_M_code_20 (tgt := 35) (by decide) (fun h9 => ?_) (fun h9 => ?_)
    · have hF := (if_neg h9).symm.trans hF
      refine lv_lconst (v := 0) hx hb d_M_code_35 (by decide) ?_
      obtain rfl := Option.some.inj hF
      exact k7 _ _ ls hP hD hS (lv_sub hl [] rfl)
    · have hF := (if_pos h9).symm.trans hF
      refine lv_aload_n hx hb d_M_code_23 rfl (lv_at hl 0 rfl) ?_
      refine va_get (D := D) (ci := 3) (v := .ref (A 1)) (C := R_M) (T := T_M) (N := 13) hx hb hts in_M hown hK hP 0 rfl rfl 1 (by decide) (hw _ ww_535) (fun _ h9 => h9) rfl d_M_code_24 ?_
      refine lv_iload_n hx hb d_M_code_27 rfl (lv_at hl 1 rfl) ?_
      by_cases h10 : a0 < 0 ∨ 6 ≤ Int32.toNatClampNeg a0
      · rw [if_pos h10] at hF; cases hF
      have hF := (if_neg h10).symm.trans hF
      refine va_lald hx hb hK hP 1 0 rfl rfl h10 d_M_code_28 ?_
      obtain ⟨r11, e_r11, hF⟩ := Option.bind_eq_some_iff.mp hF
      refine vp_callSl (va_runS (As := [.long (g0.2.1 (Int32.toNatClampNeg a0))]) (rest := []) ⟨hx, hb, hml, hown, hts⟩ (k_M_codeOf l (g0.2.1 (Int32.toNatClampNeg a0)) r11 e_r11) (va_cwS 1 hts (ga_S ww_615 ww_616 ww_4 ww_617) rfl rfl rfl (by decide +kernel) ⟨by decide, by decide⟩) (pcs_pre hN) rfl rfl hl.1 rfl (lv_room (Nat.le_of_ble_eq_true rfl)) d_M_code_29 ⟨Nat.zero_le _, Nat.zero_le _⟩).run (fun z9 hz9 => ?_)
      obtain rfl : r11 = z9 := hz9.symm
      refine lv_goto hx hb d_M_code_32 (tgt := 36) (by decide) ?_
      obtain rfl := Option.some.inj hF
      exact k7 _ _ ls hP hD hS (lv_sub hl [] rfl)
  clear hF
  have hF := q4
  refine lv_if_eq hx hb d_M_code_5 (tgt := 12) (by decide) (fun h9 => ?_) (fun h9 => ?_)
  · have hF := (if_pos h9).symm.trans hF
    refine lv_iconst (v := 1) hx hb d_M_code_12 (by decide) ?_
    obtain rfl := Option.some.inj hF
    exact k3 _ _ ls hP hD hS (lv_sub hl [0, 1] rfl)
  · have hF := (if_neg h9).symm.trans hF
    refine lv_iconst (v := 0) hx hb d_M_code_8 (by decide) ?_
    refine lv_goto hx hb d_M_code_9 (tgt := 13) (by decide) ?_
    obtain rfl := Option.some.inj hF
    exact k3 _ _ ls hP hD hS (lv_sub hl [0, 1] rfl)
def f_M_layByte (g0 : sM) (a0 : Int32) : Option sM := if g0.2.2.2.2.2.2.2.2.2.2.2.1 < 0 ∨ 16 ≤ Int32.toNatClampNeg g0.2.2.2.2.2.2.2.2.2.2.2.1 then none else (some ((g0.1, g0.2.1, g0.2.2.1, g0.2.2.2.1, g0.2.2.2.2.1, g0.2.2.2.2.2.1, g0.2.2.2.2.2.2.1, g0.2.2.2.2.2.2.2.1, g0.2.2.2.2.2.2.2.2.1, g0.2.2.2.2.2.2.2.2.2.1, g0.2.2.2.2.2.2.2.2.2.2.1, (g0.2.2.2.2.2.2.2.2.2.2.2.1 + 1), (upd g0.2.2.2.2.2.2.2.2.2.2.2.2 (Int32.toNatClampNeg g0.2.2.2.2.2.2.2.2.2.2.2.1) a0))))
abbrev rm_M_layByte : Room := { frames := 0, cells := 0, slots := 0, locals := 0 }
set_option maxHeartbeats 4000000 in
set_option maxRecDepth 100000 in
theorem k_M_layByte (l : Launch) (D : va_G) (A : Nat → Nat) (cc : Nat → ClassId) (g0 : sM) (a0 : Int32) (sz : Nat) (res : sM) (hF : f_M_layByte g0 a0 = some res) : Met l y_M_layByte (Cond.code y_M_layByte b_M_layByte 2 none :: wa) rm_M_layByte (pw D (wM A cc g0) (kM cc) [.ref (A 0), .int a0] sz) (va_Qv (fun u => u = res) (bw D (wM A cc) (kM cc) (va_A (wM A cc g0) sz)) (va_A (wM A cc g0) sz)) 0 0 (va_A (wM A cc g0) sz) := by
  refine Met.ofW (cc := b_M_layByte) (maxL := 2) (ret := none) (by decide) rfl ?_
  intro p e s m args below meth c s₁ B hml hv
  obtain ⟨rfl, hsz, hP, hK, hD0, hN⟩ := hv
  have hx := B.exec
  have hb := B.bytes
  have hr := B.returns
  have hts := atoms_spec (ws := Cond.code y_M_layByte b_M_layByte 2 none :: wa) B.pre
  have hw : ∀ w ∈ wa, w.before _ s = true := fun w h => hts w (List.mem_cons_of_mem _ h)
  have hown : s.vm.findClass R_M = some m.cls := findClass_of_methodNamed B.named
  have hlocks := B.notSynchronized
  subst hsz
  have hD := hD0.self (sz := s.heap.size)
  generalize hAe : va_A (wM A cc g0) s.heap.size = AA at hD ⊢
  have hA : ∀ q : Nat, s.heap.size ≤ q → AA q := fun q h => by rw [← hAe]; exact Or.inr h
  have hS : va_S AA s.heap s.heap [] := va_S.rf
  have hl := lv_entry ([.ref (A 0), .int a0]) (n := 2) (Nat.le_of_ble_eq_true rfl)
  rw [lg_entry_eq]
  generalize (lg_sl ([.ref (A 0), .int a0]) ++ List.replicate (2 - (lg_sl ([.ref (A 0), .int a0])).length) Slot.unset).toArray = ls at hl ⊢
  have hl : lv_has ls 2 [(0, .ref (A 0)), (1, .int a0)] := hl
  unfold f_M_layByte at hF
  refine lv_aload_n hx hb d_M_layByte_0 rfl (lv_at hl 0 rfl) ?_
  refine va_get (D := D) (ci := 3) (v := .ref (A 8)) (C := R_M) (T := T_M) (N := 13) hx hb hts in_M hown hK hP 0 rfl rfl 12 (by decide) (hw _ ww_546) (fun _ h9 => h9) rfl d_M_layByte_1 ?_
  refine lv_aload_n hx hb d_M_layByte_4 rfl (lv_at hl 0 rfl) ?_
  refine va_get (D := D) (ci := 3) (v := .int g0.2.2.2.2.2.2.2.2.2.2.2.1) (C := R_M) (T := T_M) (N := 13) hx hb hts in_M hown hK hP 0 rfl rfl 11 (by decide) (hw _ ww_545) (fun _ h9 => h9) rfl d_M_layByte_5 ?_
  refine lv_iload_n hx hb d_M_layByte_8 rfl (lv_at hl 1 rfl) ?_
  by_cases h1 : g0.2.2.2.2.2.2.2.2.2.2.2.1 < 0 ∨ 16 ≤ Int32.toNatClampNeg g0.2.2.2.2.2.2.2.2.2.2.2.1
  · rw [if_pos h1] at hF; cases hF
  have hF := (if_neg h1).symm.trans hF
  refine va_iast hx hb hK hP hD hS 8 7 rfl rfl h1 d_M_layByte_9 (fun H locs hP hD hS => ?_)
  have hP : va_P D vwC (wM A cc (g0.1, g0.2.1, g0.2.2.1, g0.2.2.2.1, g0.2.2.2.2.1, g0.2.2.2.2.2.1, g0.2.2.2.2.2.2.1, g0.2.2.2.2.2.2.2.1, g0.2.2.2.2.2.2.2.2.1, g0.2.2.2.2.2.2.2.2.2.1, g0.2.2.2.2.2.2.2.2.2.2.1, g0.2.2.2.2.2.2.2.2.2.2.2.1, (upd g0.2.2.2.2.2.2.2.2.2.2.2.2 (Int32.toNatClampNeg g0.2.2.2.2.2.2.2.2.2.2.2.1) a0))) H := hP
  have hD : va_D AA (wM A cc (g0.1, g0.2.1, g0.2.2.1, g0.2.2.2.1, g0.2.2.2.2.1, g0.2.2.2.2.2.1, g0.2.2.2.2.2.2.1, g0.2.2.2.2.2.2.2.1, g0.2.2.2.2.2.2.2.2.1, g0.2.2.2.2.2.2.2.2.2.1, g0.2.2.2.2.2.2.2.2.2.2.1, g0.2.2.2.2.2.2.2.2.2.2.2.1, (upd g0.2.2.2.2.2.2.2.2.2.2.2.2 (Int32.toNatClampNeg g0.2.2.2.2.2.2.2.2.2.2.2.1) a0))) := hD
  refine lv_aload_n hx hb d_M_layByte_10 rfl (lv_at hl 0 rfl) ?_
  refine lv_dup hx hb d_M_layByte_11 rfl ?_
  refine va_get (D := D) (ci := 3) (v := .int g0.2.2.2.2.2.2.2.2.2.2.2.1) (C := R_M) (T := T_M) (N := 13) hx hb hts in_M hown hK hP 0 rfl rfl 11 (by decide) (hw _ ww_545) (fun _ h9 => h9) rfl d_M_layByte_12 ?_
  refine lv_iconst (v := 1) hx hb d_M_layByte_15 (by decide) ?_
  refine lv_iadd hx hb d_M_layByte_16 ?_
  refine va_put (D := D) (ci := 3) (v := .int (g0.2.2.2.2.2.2.2.2.2.2.2.1 + 1)) (ty := .int) (C := R_M) (T := T_M) (N := 13) hx hb hts in_M ft_M ft_M_ok fn_M hown hK hP hD hS 0 rfl rfl 11 (by decide) (hw _ ww_545) (fun _ h9 => h9) rfl (by decide +kernel) rfl rfl (Nat.le_of_ble_eq_true rfl) d_M_layByte_17 (fun H locs hP hD hS => ?_)
  have hP : va_P D vwC (wM A cc (g0.1, g0.2.1, g0.2.2.1, g0.2.2.2.1, g0.2.2.2.2.1, g0.2.2.2.2.2.1, g0.2.2.2.2.2.2.1, g0.2.2.2.2.2.2.2.1, g0.2.2.2.2.2.2.2.2.1, g0.2.2.2.2.2.2.2.2.2.1, g0.2.2.2.2.2.2.2.2.2.2.1, (g0.2.2.2.2.2.2.2.2.2.2.2.1 + 1), (upd g0.2.2.2.2.2.2.2.2.2.2.2.2 (Int32.toNatClampNeg g0.2.2.2.2.2.2.2.2.2.2.2.1) a0))) H := hP
  have hD : va_D AA (wM A cc (g0.1, g0.2.1, g0.2.2.1, g0.2.2.2.1, g0.2.2.2.2.1, g0.2.2.2.2.2.1, g0.2.2.2.2.2.2.1, g0.2.2.2.2.2.2.2.1, g0.2.2.2.2.2.2.2.2.1, g0.2.2.2.2.2.2.2.2.2.1, g0.2.2.2.2.2.2.2.2.2.2.1, (g0.2.2.2.2.2.2.2.2.2.2.2.1 + 1), (upd g0.2.2.2.2.2.2.2.2.2.2.2.2 (Int32.toNatClampNeg g0.2.2.2.2.2.2.2.2.2.2.2.1) a0))) := hD
  obtain rfl := Option.some.inj hF
  exact W.vret hx hb hr (fun t ht hW => ⟨⟨_, rfl, rfl, bw_end hP hK hD ht hW⟩, hS.F ht⟩) hS.2.2 d_M_layByte_20
def f_M_byteAt (g0 : sM) (a0 : Int32) : Option (Int32 × sM) := Option.bind (if g0.2.2.2.2.2.2.2.2.2.1 ≤ a0 then (some (0) : Option (Int32)) else (if a0 < 0 ∨ 20 ≤ Int32.toNatClampNeg a0 then none else (some (g0.2.2.2.2.2.2.2.2.2.2.1 (Int32.toNatClampNeg a0))))) (fun j1 => some (j1, g0))
abbrev rm_M_byteAt : Room := { frames := 0, cells := 0, slots := 0, locals := 0 }
set_option maxHeartbeats 4000000 in
set_option maxRecDepth 100000 in
theorem k_M_byteAt (l : Launch) (D : va_G) (A : Nat → Nat) (cc : Nat → ClassId) (g0 : sM) (a0 : Int32) (sz : Nat) (res : (Int32 × sM)) (hF : f_M_byteAt g0 a0 = some res) : Met l y_M_byteAt (Cond.code y_M_byteAt b_M_byteAt 2 (some .int) :: wa) rm_M_byteAt (pw D (wM A cc g0) (kM cc) [.ref (A 0), .int a0] sz) (va_Qi (fun r u => (r, u) = res) (bw D (wM A cc) (kM cc) (va_A (wM A cc g0) sz)) (va_A (wM A cc g0) sz)) 0 0 (va_A (wM A cc g0) sz) := by
  refine Met.ofW (cc := b_M_byteAt) (maxL := 2) (ret := (some .int)) (by decide) rfl ?_
  intro p e s m args below meth c s₁ B hml hv
  obtain ⟨rfl, hsz, hP, hK, hD0, hN⟩ := hv
  have hx := B.exec
  have hb := B.bytes
  have hr := B.returns
  have hts := atoms_spec (ws := Cond.code y_M_byteAt b_M_byteAt 2 (some .int) :: wa) B.pre
  have hw : ∀ w ∈ wa, w.before _ s = true := fun w h => hts w (List.mem_cons_of_mem _ h)
  have hown : s.vm.findClass R_M = some m.cls := findClass_of_methodNamed B.named
  have hlocks := B.notSynchronized
  subst hsz
  have hD := hD0.self (sz := s.heap.size)
  generalize hAe : va_A (wM A cc g0) s.heap.size = AA at hD ⊢
  have hA : ∀ q : Nat, s.heap.size ≤ q → AA q := fun q h => by rw [← hAe]; exact Or.inr h
  have hS : va_S AA s.heap s.heap [] := va_S.rf
  have hl := lv_entry ([.ref (A 0), .int a0]) (n := 2) (Nat.le_of_ble_eq_true rfl)
  rw [lg_entry_eq]
  generalize (lg_sl ([.ref (A 0), .int a0]) ++ List.replicate (2 - (lg_sl ([.ref (A 0), .int a0])).length) Slot.unset).toArray = ls at hl ⊢
  have hl : lv_has ls 2 [(0, .ref (A 0)), (1, .int a0)] := hl
  unfold f_M_byteAt at hF
  refine lv_iload_n hx hb d_M_byteAt_0 rfl (lv_at hl 1 rfl) ?_
  refine lv_aload_n hx hb d_M_byteAt_1 rfl (lv_at hl 0 rfl) ?_
  refine va_get (D := D) (ci := 3) (v := .int g0.2.2.2.2.2.2.2.2.2.1) (C := R_M) (T := T_M) (N := 13) hx hb hts in_M hown hK hP 0 rfl rfl 9 (by decide) (hw _ ww_543) (fun _ h9 => h9) rfl d_M_byteAt_2 ?_
  obtain ⟨j1, q3, hF⟩ := Option.bind_eq_some_iff.mp hF
  have k2 : ∀ (H : Heap) (locs : List Loc) (ls : Array Slot), va_P D vwC (wM A cc g0) H → va_D AA (wM A cc g0) → va_S AA s.heap H locs → lv_has ls 2 [] → W p l e rm_M_byteAt s m ([Value.ref (A 0), Value.int a0] : List Value).toArray below meth c H locs 0 0 (MQ below (va_Qi (fun r u => (r, u) = res) (bw D (wM A cc) (kM cc) AA) AA) ([Value.ref (A 0), Value.int a0] : List Value).toArray s 0 0 AA) (F0 m 18 ls [.int j1]) := by
    intro H locs ls hP hD hS hl
    obtain rfl := Option.some.inj hF
    exact W.iret hx hb hr (fun t ht hW => ⟨⟨_, _, rfl, rfl, bw_end hP hK hD ht hW⟩, hS.F ht⟩) hS.2.2 d_M_byteAt_18
  clear hF
  have hF := q3
  refine lv_icmp_ge hx hb d_M_byteAt_5 (tgt := 17) (by decide) (fun h9 => ?_) (fun h9 => ?_)
  · have hF := (if_pos h9).symm.trans hF
    refine lv_iconst (v := 0) hx hb d_M_byteAt_17 (by decide) ?_
    obtain rfl := Option.some.inj hF
    exact k2 _ _ ls hP hD hS (lv_sub hl [] rfl)
  · have hF := (if_neg h9).symm.trans hF
    refine lv_aload_n hx hb d_M_byteAt_8 rfl (lv_at hl 0 rfl) ?_
    refine va_get (D := D) (ci := 3) (v := .ref (A 7)) (C := R_M) (T := T_M) (N := 13) hx hb hts in_M hown hK hP 0 rfl rfl 10 (by decide) (hw _ ww_544) (fun _ h9 => h9) rfl d_M_byteAt_9 ?_
    refine lv_iload_n hx hb d_M_byteAt_12 rfl (lv_at hl 1 rfl) ?_
    by_cases h5 : a0 < 0 ∨ 20 ≤ Int32.toNatClampNeg a0
    · rw [if_pos h5] at hF; cases hF
    have hF := (if_neg h5).symm.trans hF
    refine va_iald hx hb hK hP 7 6 rfl rfl h5 d_M_byteAt_13 ?_
    refine lv_goto hx hb d_M_byteAt_14 (tgt := 18) (by decide) ?_
    obtain rfl := Option.some.inj hF
    exact k2 _ _ ls hP hD hS (lv_sub hl [] rfl)
def f_M_numberAt_6 (a0 : Int32) : Nat → sM → Int32 → Int32 → Option (sM × Int32 × Int32)
  | 0, _, _, _ => none
  | n + 1, g4, u2, u3 => Option.bind (f_M_byteAt g4 a0) (fun t12 => match t12 with | (r11, g10) => (if (a0 + r11) < u2 then (some (g10, u2, u3)) else (if (a0 + 4) < u2 then (some (g10, u2, u3)) else (Option.bind (f_M_byteAt g10 u2) (fun t15 => match t15 with | (r14, g13) => (Option.bind (some ((u3 <<< (8 &&& 31)) ||| r14)) (fun v16 => Option.bind (some (u2 + 1)) (fun v17 => f_M_numberAt_6 a0 n g13 v17 v16))))))))
def f_M_numberAt (g0 : sM) (a0 : Int32) : Option (Int32 × sM) := Option.bind (some (a0 + 1)) (fun v1 => Option.bind (f_M_numberAt_6 a0 64 g0 v1 0) (fun t19 => match t19 with | (o6, o7, o8) => (some (o8, o6))))
abbrev rm_M_numberAt : Room := { frames := 1, cells := 0, slots := 0, locals := 21 }
set_option maxHeartbeats 4000000 in
set_option maxRecDepth 100000 in
theorem k_M_numberAt (l : Launch) (D : va_G) (A : Nat → Nat) (cc : Nat → ClassId) (g0 : sM) (a0 : Int32) (sz : Nat) (res : (Int32 × sM)) (hF : f_M_numberAt g0 a0 = some res) : Met l y_M_numberAt (Cond.code y_M_numberAt b_M_numberAt 4 (some .int) :: wa) rm_M_numberAt (pw D (wM A cc g0) (kM cc) [.ref (A 0), .int a0] sz) (va_Qi (fun r u => (r, u) = res) (bw D (wM A cc) (kM cc) (va_A (wM A cc g0) sz)) (va_A (wM A cc g0) sz)) 0 0 (va_A (wM A cc g0) sz) := by
  refine Met.ofW (cc := b_M_numberAt) (maxL := 4) (ret := (some .int)) (by decide) rfl ?_
  intro p e s m args below meth c s₁ B hml hv
  obtain ⟨rfl, hsz, hP, hK, hD0, hN⟩ := hv
  have hx := B.exec
  have hb := B.bytes
  have hr := B.returns
  have hts := atoms_spec (ws := Cond.code y_M_numberAt b_M_numberAt 4 (some .int) :: wa) B.pre
  have hw : ∀ w ∈ wa, w.before _ s = true := fun w h => hts w (List.mem_cons_of_mem _ h)
  have hown : s.vm.findClass R_M = some m.cls := findClass_of_methodNamed B.named
  have hlocks := B.notSynchronized
  subst hsz
  have hD := hD0.self (sz := s.heap.size)
  generalize hAe : va_A (wM A cc g0) s.heap.size = AA at hD ⊢
  have hA : ∀ q : Nat, s.heap.size ≤ q → AA q := fun q h => by rw [← hAe]; exact Or.inr h
  have hS : va_S AA s.heap s.heap [] := va_S.rf
  have hl := lv_entry ([.ref (A 0), .int a0]) (n := 4) (Nat.le_of_ble_eq_true rfl)
  rw [lg_entry_eq]
  generalize (lg_sl ([.ref (A 0), .int a0]) ++ List.replicate (4 - (lg_sl ([.ref (A 0), .int a0])).length) Slot.unset).toArray = ls at hl ⊢
  have hl : lv_has ls 4 [(0, .ref (A 0)), (1, .int a0)] := hl
  unfold f_M_numberAt at hF
  refine lv_iconst (v := 0) hx hb d_M_numberAt_0 (by decide) ?_
  refine lv_istore_n hx hb d_M_numberAt_1 rfl hl (by decide) (lv' := [(2, .int 0), (0, .ref (A 0)), (1, .int a0)]) rfl (fun ls hl => ?_)
  refine lv_iload_n hx hb d_M_numberAt_2 rfl (lv_at hl 2 rfl) ?_
  refine lv_iconst (v := 1) hx hb d_M_numberAt_3 (by decide) ?_
  refine lv_iadd hx hb d_M_numberAt_4 ?_
  obtain ⟨v1, e_v1, hF⟩ := Option.bind_eq_some_iff.mp hF
  refine nm_i (Option.some.inj e_v1) ?_
  refine lv_istore_n hx hb d_M_numberAt_5 rfl hl (by decide) (lv' := [(3, .int v1), (2, .int 0), (0, .ref (A 0)), (1, .int a0)]) rfl (fun ls hl => ?_)
  obtain ⟨⟨o6, o7, o8⟩, q18, hF⟩ := Option.bind_eq_some_iff.mp hF
  have k9 : ∀ (H : Heap) (locs : List Loc) (ls : Array Slot), va_P D vwC (wM A cc o6) H → va_D AA (wM A cc o6) → va_S AA s.heap H locs → lv_has ls 4 [(3, .int o7), (2, .int o8), (0, .ref (A 0)), (1, .int a0)] → W p l e rm_M_numberAt s m ([Value.ref (A 0), Value.int a0] : List Value).toArray below meth c H locs 0 0 (MQ below (va_Qi (fun r u => (r, u) = res) (bw D (wM A cc) (kM cc) AA) AA) ([Value.ref (A 0), Value.int a0] : List Value).toArray s 0 0 AA) (F0 m 41 ls []) := by
    intro H locs ls hP hD hS hl
    refine lv_iload_n hx hb d_M_numberAt_41 rfl (lv_at hl 1 rfl) ?_
    obtain rfl := Option.some.inj hF
    exact W.iret hx hb hr (fun t ht hW => ⟨⟨_, _, rfl, rfl, bw_end hP hK hD ht hW⟩, hS.F ht⟩) hS.2.2 d_M_numberAt_42
  clear hF
  have k5 : ∀ (n : Nat) (g4 : sM) (u2 : Int32) (u3 : Int32) (H : Heap) (locs : List Loc) (ls : Array Slot), va_P D vwC (wM A cc g4) H → va_D AA (wM A cc g4) → va_S AA s.heap H locs → lv_has ls 4 [(3, .int u2), (2, .int u3), (0, .ref (A 0)), (1, .int a0)] → f_M_numberAt_6 a0 n g4 u2 u3 = some (o6, o7, o8) → W p l e rm_M_numberAt s m ([Value.ref (A 0), Value.int a0] : List Value).toArray below meth c H locs 0 0 (MQ below (va_Qi (fun r u => (r, u) = res) (bw D (wM A cc) (kM cc) AA) AA) ([Value.ref (A 0), Value.int a0] : List Value).toArray s 0 0 AA) (F0 m 6 ls []) := by
    intro n
    induction n with
    | zero => intro g4 u2 u3 H locs ls hP hD hS hl hF; cases hF
    | succ n ih =>
      intro g4 u2 u3 H locs ls hP hD hS hl hF
      rw [f_M_numberAt_6] at hF
      refine lv_iload_n hx hb d_M_numberAt_6 rfl (lv_at hl 0 rfl) ?_
      refine lv_iload_n hx hb d_M_numberAt_7 rfl (lv_at hl 3 rfl) ?_
      refine lv_aload_n hx hb d_M_numberAt_8 rfl (lv_at hl 2 rfl) ?_
      refine lv_iload_n hx hb d_M_numberAt_9 rfl (lv_at hl 3 rfl) ?_
      obtain ⟨⟨r11, g10⟩, e_g10, hF⟩ := Option.bind_eq_some_iff.mp hF
      have hFc := va_free (wc := wM A cc g4) hD hS hA [0, 1, 2, 3, 4, 5, 6, 7, 8] rfl
      refine va_calli (va_runV (As := [.int a0]) (rest := [.int a0, .int u2]) ⟨hx, hb, hml, hown, hts⟩ (k_M_byteAt l D A cc g4 a0 _ (r11, g10) e_g10) (cwV 1 hts (ga_V ww_759 ww_761 wp_15 ww_4 ww_762) rfl rfl rfl (by decide +kernel) ⟨by decide, by decide⟩) (pw_pre (q0 := 0) (ci := 3) hP hK hD hN rfl rfl) rfl rfl hl.1 rfl (lv_room (Nat.le_of_ble_eq_true rfl)) d_M_numberAt_10 ⟨Nat.zero_le _, Nat.zero_le _⟩) hS (fun q _ h => hFc q h) hFc (fun r9 u9 t H locs ht hvm hp hB hz1 hk1 hS => ?_)
      obtain ⟨rfl, rfl⟩ := Prod.mk.inj hp.symm
      obtain ⟨hP, hD⟩ := bw_back hB ht hFc
      refine lv_iadd hx hb d_M_numberAt_13 ?_
      refine lv_icmp_gt hx hb d_M_numberAt_14 (tgt := 41) (by decide) (fun h9 => ?_) (fun h9 => ?_)
      · have hF := (if_pos h9).symm.trans hF
        cases Option.some.inj hF
        exact k9 _ _ ls hP hD hS (lv_sub hl [0, 1, 2, 3] rfl)
      · have hF := (if_neg h9).symm.trans hF
        refine lv_iload_n hx hb d_M_numberAt_17 rfl (lv_at hl 0 rfl) ?_
        refine lv_iload_n hx hb d_M_numberAt_18 rfl (lv_at hl 3 rfl) ?_
        refine lv_iconst (v := 4) hx hb d_M_numberAt_19 (by decide) ?_
        refine lv_iadd hx hb d_M_numberAt_20 ?_
        refine lv_icmp_gt hx hb d_M_numberAt_21 (tgt := 41) (by decide) (fun h9 => ?_) (fun h9 => ?_)
        · have hF := (if_pos h9).symm.trans hF
          cases Option.some.inj hF
          exact k9 _ _ ls hP hD hS (lv_sub hl [0, 1, 2, 3] rfl)
        · have hF := (if_neg h9).symm.trans hF
          refine lv_iload_n hx hb d_M_numberAt_24 rfl (lv_at hl 1 rfl) ?_
          refine lv_bipush (v := 8) hx hb d_M_numberAt_25 (by decide) ?_
          refine lv_ishl hx hb d_M_numberAt_27 ?_
          refine lv_aload_n hx hb d_M_numberAt_28 rfl (lv_at hl 2 rfl) ?_
          refine lv_iload_n hx hb d_M_numberAt_29 rfl (lv_at hl 0 rfl) ?_
          obtain ⟨⟨r14, g13⟩, e_g13, hF⟩ := Option.bind_eq_some_iff.mp hF
          have hFc := va_free (wc := wM A cc g10) hD hS hA [0, 1, 2, 3, 4, 5, 6, 7, 8] rfl
          refine va_calli (va_runV (As := [.int u2]) (rest := [.int (u3 <<< (8 &&& 31))]) ⟨hx, hb, hml, hown, hts⟩ (k_M_byteAt l D A cc g10 u2 _ (r14, g13) e_g13) (cwV 1 hts (ga_V ww_759 ww_761 wp_15 ww_4 ww_762) rfl rfl rfl (by decide +kernel) ⟨by decide, by decide⟩) (pw_pre (q0 := 0) (ci := 3) hP hK hD hN rfl rfl) rfl rfl hl.1 rfl (lv_room (Nat.le_of_ble_eq_true rfl)) d_M_numberAt_30 ⟨Nat.zero_le _, Nat.zero_le _⟩) hS (fun q _ h => hFc q h) hFc (fun r9 u9 t H locs ht hvm hp hB hz1 hk1 hS => ?_)
          obtain ⟨rfl, rfl⟩ := Prod.mk.inj hp.symm
          obtain ⟨hP, hD⟩ := bw_back hB ht hFc
          refine lv_ior hx hb d_M_numberAt_33 ?_
          obtain ⟨v16, e_v16, hF⟩ := Option.bind_eq_some_iff.mp hF
          refine nm_i (Option.some.inj e_v16) ?_
          refine lv_istore_n hx hb d_M_numberAt_34 rfl hl (by decide) (lv' := [(2, .int v16), (3, .int u2), (0, .ref (A 0)), (1, .int a0)]) rfl (fun ls hl => ?_)
          obtain ⟨v17, e_v17, hF⟩ := Option.bind_eq_some_iff.mp hF
          refine lv_iinc hx hb d_M_numberAt_35 hl (k := 1) (v := v17) rfl ((show _ = u2 + 1 from rfl).trans (Option.some.inj e_v17)) (by decide) (lv' := [(3, .int v17), (2, .int v16), (0, .ref (A 0)), (1, .int a0)]) rfl (fun ls hl => ?_)
          refine lv_goto hx hb d_M_numberAt_38 (tgt := 6) (by decide) ?_
          exact ih g13 v17 v16 _ _ ls hP hD hS (lv_sub hl [0, 1, 2, 3] rfl) hF
  exact k5 64 g0 v1 0 _ _ ls hP hD hS (lv_sub hl [0, 1, 2, 3] rfl) q18
end
