/-! Polynomials in x1 x2 x3 y1 y2 y3 with whole coefficients, for identities modulo y * y = x * x * x + 7: an own small normaliser. -/
abbrev zp_M : Type := Nat × Nat × Nat × Nat × Nat × Nat
abbrev zp_P : Type := List (zp_M × Int)
def zp_cd (a : zp_M) : Nat := a.1 + 64 * (a.2.1 + 64 * (a.2.2.1 + 64 * (a.2.2.2.1 + 64 * (a.2.2.2.2.1 + 64 * a.2.2.2.2.2))))
def zp_eqm (a b : zp_M) : Bool := Nat.beq a.1 b.1 && (Nat.beq a.2.1 b.2.1 && (Nat.beq a.2.2.1 b.2.2.1 && (Nat.beq a.2.2.2.1 b.2.2.2.1 && (Nat.beq a.2.2.2.2.1 b.2.2.2.2.1 && Nat.beq a.2.2.2.2.2 b.2.2.2.2.2))))
theorem zp_eqm_spec {a b : zp_M} (h : zp_eqm a b = true) : a = b := by
  obtain ⟨a1, a2, a3, a4, a5, a6⟩ := a
  obtain ⟨b1, b2, b3, b4, b5, b6⟩ := b
  simp only [zp_eqm, Bool.and_eq_true] at h
  obtain ⟨h1, h2, h3, h4, h5, h6⟩ := h
  have e1 := Nat.eq_of_beq_eq_true h1
  have e2 := Nat.eq_of_beq_eq_true h2
  have e3 := Nat.eq_of_beq_eq_true h3
  have e4 := Nat.eq_of_beq_eq_true h4
  have e5 := Nat.eq_of_beq_eq_true h5
  have e6 := Nat.eq_of_beq_eq_true h6
  subst e1; subst e2; subst e3; subst e4; subst e5; subst e6
  rfl
def zp_mm (a b : zp_M) : zp_M := (a.1 + b.1, a.2.1 + b.2.1, a.2.2.1 + b.2.2.1, a.2.2.2.1 + b.2.2.2.1, a.2.2.2.2.1 + b.2.2.2.2.1, a.2.2.2.2.2 + b.2.2.2.2.2)
def zp_cs (k : zp_M) (c : Int) (p : zp_P) : zp_P := if c = 0 then p else (k, c) :: p
def zp_go (k : zp_M) (c : Int) (f : zp_P → zp_P) : zp_P → zp_P
  | [] => (k, c) :: f []
  | t :: q => cond (Nat.blt (zp_cd k) (zp_cd t.1)) (t :: zp_go k c f q) (cond (zp_eqm k t.1) (zp_cs k (c + t.2) (f q)) ((k, c) :: f (t :: q)))
def zp_add : zp_P → zp_P → zp_P
  | [], q => q
  | t :: p, q => zp_go t.1 t.2 (zp_add p) q
def zp_tm (k : zp_M) (c : Int) (p : zp_P) : zp_P := p.map fun t => (zp_mm k t.1, c * t.2)
def zp_mr : zp_P → zp_P → zp_P
  | [], _ => []
  | t :: p, q => zp_add (zp_tm t.1 t.2 q) (zp_mr p q)
def zp_ng (p : zp_P) : zp_P := p.map fun t => (t.1, -t.2)
/-- y * y becomes x * x * x + 7, by a variable: 'hi' tells that a term has y * y in it -/
def zp_rd (hi : zp_M → Bool) (B C : zp_M → zp_M) (p : zp_P) : zp_P :=
  zp_add (p.filter fun t => !hi t.1) (zp_add ((p.filter fun t => hi t.1).map fun t => (B t.1, t.2)) ((p.filter fun t => hi t.1).map fun t => (C t.1, 7 * t.2)))
def zp_h1 (k : zp_M) : Bool := Nat.ble 2 k.2.2.2.1
def zp_b1 (k : zp_M) : zp_M := (k.1 + 3, k.2.1, k.2.2.1, k.2.2.2.1 - 2, k.2.2.2.2.1, k.2.2.2.2.2)
def zp_c1 (k : zp_M) : zp_M := (k.1, k.2.1, k.2.2.1, k.2.2.2.1 - 2, k.2.2.2.2.1, k.2.2.2.2.2)
def zp_h2 (k : zp_M) : Bool := Nat.ble 2 k.2.2.2.2.1
def zp_b2 (k : zp_M) : zp_M := (k.1, k.2.1 + 3, k.2.2.1, k.2.2.2.1, k.2.2.2.2.1 - 2, k.2.2.2.2.2)
def zp_c2 (k : zp_M) : zp_M := (k.1, k.2.1, k.2.2.1, k.2.2.2.1, k.2.2.2.2.1 - 2, k.2.2.2.2.2)
def zp_h3 (k : zp_M) : Bool := Nat.ble 2 k.2.2.2.2.2
def zp_b3 (k : zp_M) : zp_M := (k.1, k.2.1, k.2.2.1 + 3, k.2.2.2.1, k.2.2.2.2.1, k.2.2.2.2.2 - 2)
def zp_c3 (k : zp_M) : zp_M := (k.1, k.2.1, k.2.2.1, k.2.2.2.1, k.2.2.2.2.1, k.2.2.2.2.2 - 2)
def zp_mu (p q : zp_P) : zp_P := zp_rd zp_h3 zp_b3 zp_c3 (zp_rd zp_h2 zp_b2 zp_c2 (zp_rd zp_h1 zp_b1 zp_c1 (zp_mr p q)))
def zp_sb (p q : zp_P) : zp_P := zp_add p (zp_ng q)
def zp_k (c : Int) : zp_P := [((0, 0, 0, 0, 0, 0), c)]
def zp_x1 : zp_P := [((1, 0, 0, 0, 0, 0), 1)]
def zp_x2 : zp_P := [((0, 1, 0, 0, 0, 0), 1)]
def zp_x3 : zp_P := [((0, 0, 1, 0, 0, 0), 1)]
def zp_y1 : zp_P := [((0, 0, 0, 1, 0, 0), 1)]
def zp_y2 : zp_P := [((0, 0, 0, 0, 1, 0), 1)]
def zp_y3 : zp_P := [((0, 0, 0, 0, 0, 1), 1)]
-- what they mean in a ring
def zp_c {K : Type} [Lean.Grind.CommRing K] (c : Int) : K := (Lean.Grind.Ring.intCast (α := K)).intCast c
theorem zp_c_add {K : Type} [Lean.Grind.CommRing K] (a b : Int) : zp_c (K := K) (a + b) = zp_c a + zp_c b := Lean.Grind.Ring.intCast_add a b
theorem zp_c_mul {K : Type} [Lean.Grind.CommRing K] (a b : Int) : zp_c (K := K) (a * b) = zp_c a * zp_c b := Lean.Grind.Ring.intCast_mul a b
theorem zp_c_neg {K : Type} [Lean.Grind.CommRing K] (a : Int) : zp_c (K := K) (-a) = -zp_c a := Lean.Grind.Ring.intCast_neg a
theorem zp_c_0 {K : Type} [Lean.Grind.CommRing K] : zp_c (K := K) 0 = 0 := Lean.Grind.Ring.intCast_zero
theorem zp_c_1 {K : Type} [Lean.Grind.CommRing K] : zp_c (K := K) 1 = 1 := Lean.Grind.Ring.intCast_one
theorem zp_c_nat {K : Type} [Lean.Grind.CommRing K] (n : Nat) : zp_c (K := K) (OfNat.ofNat n) = OfNat.ofNat n := Lean.Grind.Ring.intCast_ofNat n
def zp_mo {K : Type} [Lean.Grind.CommRing K] (x1 x2 x3 y1 y2 y3 : K) (k : zp_M) : K := x1 ^ k.1 * (x2 ^ k.2.1 * (x3 ^ k.2.2.1 * (y1 ^ k.2.2.2.1 * (y2 ^ k.2.2.2.2.1 * y3 ^ k.2.2.2.2.2))))
def zp_ev {K : Type} [Lean.Grind.CommRing K] (x1 x2 x3 y1 y2 y3 : K) : zp_P → K
  | [] => 0
  | t :: p => zp_c t.2 * zp_mo x1 x2 x3 y1 y2 y3 t.1 + zp_ev x1 x2 x3 y1 y2 y3 p
theorem zp_mo_mm {K : Type} [Lean.Grind.CommRing K] (x1 x2 x3 y1 y2 y3 : K) (a b : zp_M) : zp_mo x1 x2 x3 y1 y2 y3 (zp_mm a b) = zp_mo x1 x2 x3 y1 y2 y3 a * zp_mo x1 x2 x3 y1 y2 y3 b := by
  simp only [zp_mo, zp_mm, Lean.Grind.Semiring.pow_add]
  grind
theorem zp_ev_cs {K : Type} [Lean.Grind.CommRing K] (x1 x2 x3 y1 y2 y3 : K) (k : zp_M) (c : Int) (p : zp_P) : zp_ev x1 x2 x3 y1 y2 y3 (zp_cs k c p) = zp_c c * zp_mo x1 x2 x3 y1 y2 y3 k + zp_ev x1 x2 x3 y1 y2 y3 p := by
  unfold zp_cs
  split
  · next h => rw [h, zp_c_0]; grind
  · rfl
theorem zp_ev_go {K : Type} [Lean.Grind.CommRing K] (x1 x2 x3 y1 y2 y3 : K) (k : zp_M) (c : Int) (f : zp_P → zp_P) (E : K) (hf : ∀ q, zp_ev x1 x2 x3 y1 y2 y3 (f q) = E + zp_ev x1 x2 x3 y1 y2 y3 q) (q : zp_P) :
    zp_ev x1 x2 x3 y1 y2 y3 (zp_go k c f q) = zp_c c * zp_mo x1 x2 x3 y1 y2 y3 k + E + zp_ev x1 x2 x3 y1 y2 y3 q := by
  induction q with
  | nil => simp only [zp_go, zp_ev, hf]; grind
  | cons t q ih =>
    simp only [zp_go]
    cases hb : Nat.blt (zp_cd k) (zp_cd t.1)
    · cases he : zp_eqm k t.1
      · simp only [cond, zp_ev, hf]; grind
      · have h9 := zp_eqm_spec he
        simp only [cond, zp_ev_cs, hf, zp_ev, zp_c_add, ← h9]; grind
    · simp only [cond, zp_ev, ih]; grind
theorem zp_ev_add {K : Type} [Lean.Grind.CommRing K] (x1 x2 x3 y1 y2 y3 : K) (p q : zp_P) : zp_ev x1 x2 x3 y1 y2 y3 (zp_add p q) = zp_ev x1 x2 x3 y1 y2 y3 p + zp_ev x1 x2 x3 y1 y2 y3 q := by
  induction p generalizing q with
  | nil => simp only [zp_add, zp_ev]; grind
  | cons t p ih => simp only [zp_add]; rw [zp_ev_go x1 x2 x3 y1 y2 y3 t.1 t.2 (zp_add p) (zp_ev x1 x2 x3 y1 y2 y3 p) ih q]; simp only [zp_ev]
theorem zp_ev_tm {K : Type} [Lean.Grind.CommRing K] (x1 x2 x3 y1 y2 y3 : K) (k : zp_M) (c : Int) (p : zp_P) : zp_ev x1 x2 x3 y1 y2 y3 (zp_tm k c p) = zp_c c * zp_mo x1 x2 x3 y1 y2 y3 k * zp_ev x1 x2 x3 y1 y2 y3 p := by
  unfold zp_tm
  induction p with
  | nil => simp only [List.map, zp_ev]; grind
  | cons t p ih => simp only [List.map, zp_ev, ih, zp_mo_mm, zp_c_mul]; grind
theorem zp_ev_mr {K : Type} [Lean.Grind.CommRing K] (x1 x2 x3 y1 y2 y3 : K) (p q : zp_P) : zp_ev x1 x2 x3 y1 y2 y3 (zp_mr p q) = zp_ev x1 x2 x3 y1 y2 y3 p * zp_ev x1 x2 x3 y1 y2 y3 q := by
  induction p with
  | nil => simp only [zp_mr, zp_ev]; grind
  | cons t p ih => simp only [zp_mr, zp_ev, zp_ev_add, zp_ev_tm, ih]; grind
theorem zp_ev_ng {K : Type} [Lean.Grind.CommRing K] (x1 x2 x3 y1 y2 y3 : K) (p : zp_P) : zp_ev x1 x2 x3 y1 y2 y3 (zp_ng p) = -zp_ev x1 x2 x3 y1 y2 y3 p := by
  unfold zp_ng
  induction p with
  | nil => simp only [List.map, zp_ev]; grind
  | cons t p ih => simp only [List.map, zp_ev, ih, zp_c_neg]; grind
theorem zp_ev_rd {K : Type} [Lean.Grind.CommRing K] (x1 x2 x3 y1 y2 y3 : K) (hi : zp_M → Bool) (B C : zp_M → zp_M)
    (h : ∀ k, hi k = true → zp_mo x1 x2 x3 y1 y2 y3 k = zp_mo x1 x2 x3 y1 y2 y3 (B k) + 7 * zp_mo x1 x2 x3 y1 y2 y3 (C k)) (p : zp_P) : zp_ev x1 x2 x3 y1 y2 y3 (zp_rd hi B C p) = zp_ev x1 x2 x3 y1 y2 y3 p := by
  unfold zp_rd
  rw [zp_ev_add, zp_ev_add]
  induction p with
  | nil => simp only [List.filter, List.map, zp_ev]; grind
  | cons t p ih =>
    have h7 : zp_c (K := K) (7 * t.2) = 7 * zp_c t.2 := by rw [zp_c_mul]; rw [show zp_c (K := K) 7 = 7 from zp_c_nat 7]
    cases hh : hi t.1
    · simp only [List.filter, hh, Bool.not_false, zp_ev] at ih ⊢
      grind
    · have h9 := h t.1 hh
      simp only [List.filter, hh, Bool.not_true, List.map, zp_ev, h7, h9] at ih ⊢
      grind
theorem zp_pw {K : Type} [Lean.Grind.CommRing K] (y : K) {n : Nat} (h : Nat.ble 2 n = true) : y ^ n = y * y * y ^ (n - 2) := by
  have h2 := Nat.le_of_ble_eq_true h
  obtain ⟨m, rfl⟩ : ∃ m, n = m + 2 := ⟨n - 2, by omega⟩
  rw [show m + 2 - 2 = m by omega, Lean.Grind.Semiring.pow_succ, Lean.Grind.Semiring.pow_succ]
  grind
theorem zp_pw3 {K : Type} [Lean.Grind.CommRing K] (x : K) (n : Nat) : x ^ (n + 3) = x * x * x * x ^ n := by
  rw [Lean.Grind.Semiring.pow_succ, Lean.Grind.Semiring.pow_succ, Lean.Grind.Semiring.pow_succ]
  grind
theorem zp_ev_mu {K : Type} [Lean.Grind.CommRing K] {x1 x2 x3 y1 y2 y3 : K} (h1 : y1 * y1 = x1 * x1 * x1 + 7) (h2 : y2 * y2 = x2 * x2 * x2 + 7) (h3 : y3 * y3 = x3 * x3 * x3 + 7) (p q : zp_P) :
    zp_ev x1 x2 x3 y1 y2 y3 (zp_mu p q) = zp_ev x1 x2 x3 y1 y2 y3 p * zp_ev x1 x2 x3 y1 y2 y3 q := by
  unfold zp_mu
  rw [zp_ev_rd, zp_ev_rd, zp_ev_rd, zp_ev_mr]
  · intro k hk
    simp only [zp_mo, zp_b1, zp_c1]
    rw [zp_pw y1 hk, h1, zp_pw3]
    grind
  · intro k hk
    simp only [zp_mo, zp_b2, zp_c2]
    rw [zp_pw y2 hk, h2, zp_pw3]
    grind
  · intro k hk
    simp only [zp_mo, zp_b3, zp_c3]
    rw [zp_pw y3 hk, h3, zp_pw3]
    grind
theorem zp_ev_sb {K : Type} [Lean.Grind.CommRing K] (x1 x2 x3 y1 y2 y3 : K) (p q : zp_P) : zp_ev x1 x2 x3 y1 y2 y3 (zp_sb p q) = zp_ev x1 x2 x3 y1 y2 y3 p - zp_ev x1 x2 x3 y1 y2 y3 q := by
  unfold zp_sb
  rw [zp_ev_add, zp_ev_ng]
  grind
theorem zp_ev_k {K : Type} [Lean.Grind.CommRing K] (x1 x2 x3 y1 y2 y3 : K) (c : Int) : zp_ev x1 x2 x3 y1 y2 y3 (zp_k c) = zp_c c := by
  simp only [zp_k, zp_ev, zp_mo, Lean.Grind.Semiring.pow_zero]
  grind
theorem zp_ev_x1 {K : Type} [Lean.Grind.CommRing K] (x1 x2 x3 y1 y2 y3 : K) : zp_ev x1 x2 x3 y1 y2 y3 zp_x1 = x1 := by
  simp only [zp_x1, zp_ev, zp_mo, zp_c_1, Lean.Grind.Semiring.pow_zero, Lean.Grind.Semiring.pow_one]
  grind
theorem zp_ev_x2 {K : Type} [Lean.Grind.CommRing K] (x1 x2 x3 y1 y2 y3 : K) : zp_ev x1 x2 x3 y1 y2 y3 zp_x2 = x2 := by
  simp only [zp_x2, zp_ev, zp_mo, zp_c_1, Lean.Grind.Semiring.pow_zero, Lean.Grind.Semiring.pow_one]
  grind
theorem zp_ev_x3 {K : Type} [Lean.Grind.CommRing K] (x1 x2 x3 y1 y2 y3 : K) : zp_ev x1 x2 x3 y1 y2 y3 zp_x3 = x3 := by
  simp only [zp_x3, zp_ev, zp_mo, zp_c_1, Lean.Grind.Semiring.pow_zero, Lean.Grind.Semiring.pow_one]
  grind
theorem zp_ev_y1 {K : Type} [Lean.Grind.CommRing K] (x1 x2 x3 y1 y2 y3 : K) : zp_ev x1 x2 x3 y1 y2 y3 zp_y1 = y1 := by
  simp only [zp_y1, zp_ev, zp_mo, zp_c_1, Lean.Grind.Semiring.pow_zero, Lean.Grind.Semiring.pow_one]
  grind
theorem zp_ev_y2 {K : Type} [Lean.Grind.CommRing K] (x1 x2 x3 y1 y2 y3 : K) : zp_ev x1 x2 x3 y1 y2 y3 zp_y2 = y2 := by
  simp only [zp_y2, zp_ev, zp_mo, zp_c_1, Lean.Grind.Semiring.pow_zero, Lean.Grind.Semiring.pow_one]
  grind
theorem zp_ev_y3 {K : Type} [Lean.Grind.CommRing K] (x1 x2 x3 y1 y2 y3 : K) : zp_ev x1 x2 x3 y1 y2 y3 zp_y3 = y3 := by
  simp only [zp_y3, zp_ev, zp_mo, zp_c_1, Lean.Grind.Semiring.pow_zero, Lean.Grind.Semiring.pow_one]
  grind
