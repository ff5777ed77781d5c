/-! The curve y * y = x * x * x + 7 over a ring without divisors of zero in which x * x * x + 7 is never zero: its addition is associative. By the addition law that has no exceptional pairs there. -/
theorem zp_zero {K : Type} [Lean.Grind.CommRing K] {x1 x2 x3 y1 y2 y3 : K} {p : zp_P} (h : p.isEmpty = true) : zp_ev x1 x2 x3 y1 y2 y3 p = 0 := by
  cases p with
  | nil => rfl
  | cons t p => cases h
theorem ec_sub0 {K : Type} [Lean.Grind.CommRing K] {a b : K} (h : a - b = 0) : a = b := by grind
theorem ec_canc {K : Type} [Lean.Grind.CommRing K] (nz : ∀ a b : K, a * b = 0 → a = 0 ∨ b = 0) {a x y : K} (ha : a ≠ 0) (h : a * x = a * y) : x = y := by
  have h1 : a * (x - y) = 0 := by grind
  rcases nz _ _ h1 with h2 | h2
  · exact absurd h2 ha
  · exact ec_sub0 h2
theorem ec_mulne {K : Type} [Lean.Grind.CommRing K] (nz : ∀ a b : K, a * b = 0 → a = 0 ∨ b = 0) {a b : K} (ha : a ≠ 0) (hb : b ≠ 0) : a * b ≠ 0 := fun h => (nz _ _ h).elim ha hb
abbrev ec_T (K : Type) : Type := K × K × K
def ec_X {K : Type} [Lean.Grind.CommRing K] (u v : ec_T K) : K := (u.1 * v.2.1 + v.1 * u.2.1) * (u.2.1 * v.2.1 - 21 * (u.2.2 * v.2.2)) - 21 * ((u.2.1 * v.2.2 + v.2.1 * u.2.2) * (u.1 * v.2.2 + v.1 * u.2.2))
def ec_Y {K : Type} [Lean.Grind.CommRing K] (u v : ec_T K) : K := (u.2.1 * v.2.1 + 21 * (u.2.2 * v.2.2)) * (u.2.1 * v.2.1 - 21 * (u.2.2 * v.2.2)) + 63 * (u.1 * v.1 * (u.1 * v.2.2 + v.1 * u.2.2))
def ec_Z {K : Type} [Lean.Grind.CommRing K] (u v : ec_T K) : K := (u.2.1 * v.2.2 + v.2.1 * u.2.2) * (u.2.1 * v.2.1 + 21 * (u.2.2 * v.2.2)) + 3 * (u.1 * v.1 * (u.1 * v.2.1 + v.1 * u.2.1))
def ec_C {K : Type} [Lean.Grind.CommRing K] (u v : ec_T K) : ec_T K := (ec_X u v, ec_Y u v, ec_Z u v)
abbrev zp_T : Type := zp_P × zp_P × zp_P
def zp_X (u v : zp_T) : zp_P := zp_sb (zp_mu (zp_add (zp_mu u.1 v.2.1) (zp_mu v.1 u.2.1)) (zp_sb (zp_mu u.2.1 v.2.1) (zp_mu (zp_k 21) (zp_mu u.2.2 v.2.2)))) (zp_mu (zp_k 21) (zp_mu (zp_add (zp_mu u.2.1 v.2.2) (zp_mu v.2.1 u.2.2)) (zp_add (zp_mu u.1 v.2.2) (zp_mu v.1 u.2.2))))
def zp_Y (u v : zp_T) : zp_P := zp_add (zp_mu (zp_add (zp_mu u.2.1 v.2.1) (zp_mu (zp_k 21) (zp_mu u.2.2 v.2.2))) (zp_sb (zp_mu u.2.1 v.2.1) (zp_mu (zp_k 21) (zp_mu u.2.2 v.2.2)))) (zp_mu (zp_k 63) (zp_mu (zp_mu u.1 v.1) (zp_add (zp_mu u.1 v.2.2) (zp_mu v.1 u.2.2))))
def zp_Z (u v : zp_T) : zp_P := zp_add (zp_mu (zp_add (zp_mu u.2.1 v.2.2) (zp_mu v.2.1 u.2.2)) (zp_add (zp_mu u.2.1 v.2.1) (zp_mu (zp_k 21) (zp_mu u.2.2 v.2.2)))) (zp_mu (zp_k 3) (zp_mu (zp_mu u.1 v.1) (zp_add (zp_mu u.1 v.2.1) (zp_mu v.1 u.2.1))))
def zp_C (u v : zp_T) : zp_T := (zp_X u v, zp_Y u v, zp_Z u v)
def zp_et {K : Type} [Lean.Grind.CommRing K] (x1 x2 x3 y1 y2 y3 : K) (u : zp_T) : ec_T K := (zp_ev x1 x2 x3 y1 y2 y3 u.1, zp_ev x1 x2 x3 y1 y2 y3 u.2.1, zp_ev x1 x2 x3 y1 y2 y3 u.2.2)
theorem zp_ev_X {K : Type} [Lean.Grind.CommRing K] {x1 x2 x3 y1 y2 y3 : K} (h1 : y1 * y1 = x1 * x1 * x1 + 7) (h2 : y2 * y2 = x2 * x2 * x2 + 7) (h3 : y3 * y3 = x3 * x3 * x3 + 7) (u v : zp_T) :
    zp_ev x1 x2 x3 y1 y2 y3 (zp_X u v) = ec_X (zp_et x1 x2 x3 y1 y2 y3 u) (zp_et x1 x2 x3 y1 y2 y3 v) := by
  simp only [zp_X, ec_X, zp_et, zp_ev_sb, zp_ev_add, zp_ev_mu h1 h2 h3, zp_ev_k, show zp_c (K := K) 21 = 21 from zp_c_nat 21]
theorem zp_ev_Y {K : Type} [Lean.Grind.CommRing K] {x1 x2 x3 y1 y2 y3 : K} (h1 : y1 * y1 = x1 * x1 * x1 + 7) (h2 : y2 * y2 = x2 * x2 * x2 + 7) (h3 : y3 * y3 = x3 * x3 * x3 + 7) (u v : zp_T) :
    zp_ev x1 x2 x3 y1 y2 y3 (zp_Y u v) = ec_Y (zp_et x1 x2 x3 y1 y2 y3 u) (zp_et x1 x2 x3 y1 y2 y3 v) := by
  simp only [zp_Y, ec_Y, zp_et, zp_ev_sb, zp_ev_add, zp_ev_mu h1 h2 h3, zp_ev_k, show zp_c (K := K) 21 = 21 from zp_c_nat 21, show zp_c (K := K) 63 = 63 from zp_c_nat 63]
theorem zp_ev_Z {K : Type} [Lean.Grind.CommRing K] {x1 x2 x3 y1 y2 y3 : K} (h1 : y1 * y1 = x1 * x1 * x1 + 7) (h2 : y2 * y2 = x2 * x2 * x2 + 7) (h3 : y3 * y3 = x3 * x3 * x3 + 7) (u v : zp_T) :
    zp_ev x1 x2 x3 y1 y2 y3 (zp_Z u v) = ec_Z (zp_et x1 x2 x3 y1 y2 y3 u) (zp_et x1 x2 x3 y1 y2 y3 v) := by
  simp only [zp_Z, ec_Z, zp_et, zp_ev_sb, zp_ev_add, zp_ev_mu h1 h2 h3, zp_ev_k, show zp_c (K := K) 21 = 21 from zp_c_nat 21, show zp_c (K := K) 3 = 3 from zp_c_nat 3]
def zp_p1 : zp_T := (zp_x1, zp_y1, zp_k 1)
def zp_p2 : zp_T := (zp_x2, zp_y2, zp_k 1)
def zp_p3 : zp_T := (zp_x3, zp_y3, zp_k 1)
theorem zp_et_p1 {K : Type} [Lean.Grind.CommRing K] (x1 x2 x3 y1 y2 y3 : K) : zp_et x1 x2 x3 y1 y2 y3 zp_p1 = (x1, y1, 1) := by simp only [zp_et, zp_p1, zp_ev_x1, zp_ev_y1, zp_ev_k, zp_c_1]
theorem zp_et_p2 {K : Type} [Lean.Grind.CommRing K] (x1 x2 x3 y1 y2 y3 : K) : zp_et x1 x2 x3 y1 y2 y3 zp_p2 = (x2, y2, 1) := by simp only [zp_et, zp_p2, zp_ev_x2, zp_ev_y2, zp_ev_k, zp_c_1]
theorem zp_et_p3 {K : Type} [Lean.Grind.CommRing K] (x1 x2 x3 y1 y2 y3 : K) : zp_et x1 x2 x3 y1 y2 y3 zp_p3 = (x3, y3, 1) := by simp only [zp_et, zp_p3, zp_ev_x3, zp_ev_y3, zp_ev_k, zp_c_1]
theorem zp_et_C {K : Type} [Lean.Grind.CommRing K] {x1 x2 x3 y1 y2 y3 : K} (h1 : y1 * y1 = x1 * x1 * x1 + 7) (h2 : y2 * y2 = x2 * x2 * x2 + 7) (h3 : y3 * y3 = x3 * x3 * x3 + 7) (u v : zp_T) :
    zp_et x1 x2 x3 y1 y2 y3 (zp_C u v) = ec_C (zp_et x1 x2 x3 y1 y2 y3 u) (zp_et x1 x2 x3 y1 y2 y3 v) := by
  show (zp_ev x1 x2 x3 y1 y2 y3 (zp_X u v), zp_ev x1 x2 x3 y1 y2 y3 (zp_Y u v), zp_ev x1 x2 x3 y1 y2 y3 (zp_Z u v)) = _
  rw [zp_ev_X h1 h2 h3, zp_ev_Y h1 h2 h3, zp_ev_Z h1 h2 h3]
  rfl
-- two points: the chord and the tangent, by numerators
def ec_nx {K : Type} [Lean.Grind.CommRing K] (d n x1 x2 : K) : K := n * n - (x1 + x2) * (d * d)
def ec_ny {K : Type} [Lean.Grind.CommRing K] (d n x1 x2 y1 : K) : K := n * (x1 * (d * d) - ec_nx d n x1 x2) - y1 * (d * d * d)
def zp_nx (d n x1 x2 : zp_P) : zp_P := zp_sb (zp_mu n n) (zp_mu (zp_add x1 x2) (zp_mu d d))
def zp_ny (d n x1 x2 y1 : zp_P) : zp_P := zp_sb (zp_mu n (zp_sb (zp_mu x1 (zp_mu d d)) (zp_nx d n x1 x2))) (zp_mu y1 (zp_mu (zp_mu d d) d))
theorem zp_ev_nx {K : Type} [Lean.Grind.CommRing K] {x1 x2 x3 y1 y2 y3 : K} (h1 : y1 * y1 = x1 * x1 * x1 + 7) (h2 : y2 * y2 = x2 * x2 * x2 + 7) (h3 : y3 * y3 = x3 * x3 * x3 + 7) (d n a b : zp_P) :
    zp_ev x1 x2 x3 y1 y2 y3 (zp_nx d n a b) = ec_nx (zp_ev x1 x2 x3 y1 y2 y3 d) (zp_ev x1 x2 x3 y1 y2 y3 n) (zp_ev x1 x2 x3 y1 y2 y3 a) (zp_ev x1 x2 x3 y1 y2 y3 b) := by
  simp only [zp_nx, ec_nx, zp_ev_sb, zp_ev_add, zp_ev_mu h1 h2 h3]
theorem zp_ev_ny {K : Type} [Lean.Grind.CommRing K] {x1 x2 x3 y1 y2 y3 : K} (h1 : y1 * y1 = x1 * x1 * x1 + 7) (h2 : y2 * y2 = x2 * x2 * x2 + 7) (h3 : y3 * y3 = x3 * x3 * x3 + 7) (d n a b c : zp_P) :
    zp_ev x1 x2 x3 y1 y2 y3 (zp_ny d n a b c) = ec_ny (zp_ev x1 x2 x3 y1 y2 y3 d) (zp_ev x1 x2 x3 y1 y2 y3 n) (zp_ev x1 x2 x3 y1 y2 y3 a) (zp_ev x1 x2 x3 y1 y2 y3 b) (zp_ev x1 x2 x3 y1 y2 y3 c) := by
  simp only [zp_ny, ec_ny, zp_ev_sb, zp_ev_nx h1 h2 h3, zp_ev_mu h1 h2 h3]
def zp_D : zp_P := zp_sb zp_x2 zp_x1
def zp_N : zp_P := zp_sb zp_y2 zp_y1
def zp_S : zp_P := zp_sb (zp_ng zp_y2) zp_y1
def zp_U : zp_P := zp_add zp_y1 zp_y1
def zp_V : zp_P := zp_mu (zp_k 3) (zp_mu zp_x1 zp_x1)
set_option maxRecDepth 100000 in
theorem zp_i1 : (zp_sb (zp_mu (zp_mu zp_D zp_D) (zp_X zp_p1 zp_p2)) (zp_mu (zp_nx zp_D zp_N zp_x1 zp_x2) (zp_Z zp_p1 zp_p2))).isEmpty = true := by decide +kernel
set_option maxRecDepth 100000 in
theorem zp_i2 : (zp_sb (zp_mu (zp_mu (zp_mu zp_D zp_D) zp_D) (zp_Y zp_p1 zp_p2)) (zp_mu (zp_ny zp_D zp_N zp_x1 zp_x2 zp_y1) (zp_Z zp_p1 zp_p2))).isEmpty = true := by decide +kernel
set_option maxRecDepth 100000 in
theorem zp_i3 : (zp_sb (zp_ny zp_D zp_S zp_x1 zp_x2 zp_y1) (zp_Z zp_p1 zp_p2)).isEmpty = true := by decide +kernel
set_option maxRecDepth 100000 in
theorem zp_i4 : (zp_sb (zp_mu (zp_ny zp_D zp_N zp_x1 zp_x2 zp_y1) (zp_ny zp_D zp_N zp_x1 zp_x2 zp_y1)) (zp_add (zp_mu (zp_mu (zp_nx zp_D zp_N zp_x1 zp_x2) (zp_nx zp_D zp_N zp_x1 zp_x2)) (zp_nx zp_D zp_N zp_x1 zp_x2)) (zp_mu (zp_k 7) (zp_mu (zp_mu (zp_mu zp_D zp_D) zp_D) (zp_mu (zp_mu zp_D zp_D) zp_D))))).isEmpty = true := by decide +kernel
set_option maxRecDepth 100000 in
theorem zp_i5 : (zp_sb (zp_mu (zp_mu zp_U zp_U) (zp_X zp_p1 zp_p1)) (zp_mu (zp_nx zp_U zp_V zp_x1 zp_x1) (zp_Z zp_p1 zp_p1))).isEmpty = true := by decide +kernel
set_option maxRecDepth 100000 in
theorem zp_i6 : (zp_sb (zp_mu (zp_mu (zp_mu zp_U zp_U) zp_U) (zp_Y zp_p1 zp_p1)) (zp_mu (zp_ny zp_U zp_V zp_x1 zp_x1 zp_y1) (zp_Z zp_p1 zp_p1))).isEmpty = true := by decide +kernel
set_option maxRecDepth 100000 in
theorem zp_i7 : (zp_sb (zp_Z zp_p1 zp_p1) (zp_mu (zp_mu zp_U zp_U) zp_U)).isEmpty = true := by decide +kernel
set_option maxRecDepth 100000 in
theorem zp_i8 : (zp_sb (zp_mu (zp_ny zp_U zp_V zp_x1 zp_x1 zp_y1) (zp_ny zp_U zp_V zp_x1 zp_x1 zp_y1)) (zp_add (zp_mu (zp_mu (zp_nx zp_U zp_V zp_x1 zp_x1) (zp_nx zp_U zp_V zp_x1 zp_x1)) (zp_nx zp_U zp_V zp_x1 zp_x1)) (zp_mu (zp_k 7) (zp_mu (zp_mu (zp_mu zp_U zp_U) zp_U) (zp_mu (zp_mu zp_U zp_U) zp_U))))).isEmpty = true := by decide +kernel
set_option maxRecDepth 100000 in
theorem zp_i9 : (zp_sb (zp_Y zp_p1 (zp_x1, zp_ng zp_y1, zp_k 1)) (zp_ny zp_U zp_V zp_x1 zp_x1 zp_y1)).isEmpty = true := by decide +kernel
section
theorem ec_i1 {K : Type} [Lean.Grind.CommRing K] {x1 x2 y1 y2 : K} (h1 : y1 * y1 = x1 * x1 * x1 + 7) (h2 : y2 * y2 = x2 * x2 * x2 + 7) :
    (x2 - x1) * (x2 - x1) * ec_X (x1, y1, 1) (x2, y2, 1) = ec_nx (x2 - x1) (y2 - y1) x1 x2 * ec_Z (x1, y1, 1) (x2, y2, 1) := by
  have h := zp_zero (x1 := x1) (x2 := x2) (x3 := x1) (y1 := y1) (y2 := y2) (y3 := y1) zp_i1
  simp only [zp_D, zp_N, zp_ev_sb, zp_ev_mu h1 h2 h1, zp_ev_nx h1 h2 h1, zp_ev_X h1 h2 h1, zp_ev_Z h1 h2 h1, zp_et_p1, zp_et_p2, zp_ev_x1, zp_ev_x2, zp_ev_y1, zp_ev_y2] at h
  exact ec_sub0 h
theorem ec_i2 {K : Type} [Lean.Grind.CommRing K] {x1 x2 y1 y2 : K} (h1 : y1 * y1 = x1 * x1 * x1 + 7) (h2 : y2 * y2 = x2 * x2 * x2 + 7) :
    (x2 - x1) * (x2 - x1) * (x2 - x1) * ec_Y (x1, y1, 1) (x2, y2, 1) = ec_ny (x2 - x1) (y2 - y1) x1 x2 y1 * ec_Z (x1, y1, 1) (x2, y2, 1) := by
  have h := zp_zero (x1 := x1) (x2 := x2) (x3 := x1) (y1 := y1) (y2 := y2) (y3 := y1) zp_i2
  simp only [zp_D, zp_N, zp_ev_sb, zp_ev_mu h1 h2 h1, zp_ev_ny h1 h2 h1, zp_ev_Y h1 h2 h1, zp_ev_Z h1 h2 h1, zp_et_p1, zp_et_p2, zp_ev_x1, zp_ev_x2, zp_ev_y1, zp_ev_y2] at h
  exact ec_sub0 h
theorem ec_i3 {K : Type} [Lean.Grind.CommRing K] {x1 x2 y1 y2 : K} (h1 : y1 * y1 = x1 * x1 * x1 + 7) (h2 : y2 * y2 = x2 * x2 * x2 + 7) :
    ec_ny (x2 - x1) (-y2 - y1) x1 x2 y1 = ec_Z (x1, y1, 1) (x2, y2, 1) := by
  have h := zp_zero (x1 := x1) (x2 := x2) (x3 := x1) (y1 := y1) (y2 := y2) (y3 := y1) zp_i3
  simp only [zp_D, zp_S, zp_ev_sb, zp_ev_ng, zp_ev_ny h1 h2 h1, zp_ev_Z h1 h2 h1, zp_et_p1, zp_et_p2, zp_ev_x1, zp_ev_x2, zp_ev_y1, zp_ev_y2] at h
  exact ec_sub0 h
theorem ec_i4 {K : Type} [Lean.Grind.CommRing K] {x1 x2 y1 y2 : K} (h1 : y1 * y1 = x1 * x1 * x1 + 7) (h2 : y2 * y2 = x2 * x2 * x2 + 7) :
    ec_ny (x2 - x1) (y2 - y1) x1 x2 y1 * ec_ny (x2 - x1) (y2 - y1) x1 x2 y1 = ec_nx (x2 - x1) (y2 - y1) x1 x2 * ec_nx (x2 - x1) (y2 - y1) x1 x2 * ec_nx (x2 - x1) (y2 - y1) x1 x2 + 7 * ((x2 - x1) * (x2 - x1) * (x2 - x1) * ((x2 - x1) * (x2 - x1) * (x2 - x1))) := by
  have h := zp_zero (x1 := x1) (x2 := x2) (x3 := x1) (y1 := y1) (y2 := y2) (y3 := y1) zp_i4
  simp only [zp_D, zp_N, zp_ev_sb, zp_ev_add, zp_ev_mu h1 h2 h1, zp_ev_ny h1 h2 h1, zp_ev_nx h1 h2 h1, zp_ev_x1, zp_ev_x2, zp_ev_y1, zp_ev_y2, zp_ev_k, show zp_c (K := K) 7 = 7 from zp_c_nat 7] at h
  exact ec_sub0 h
theorem ec_i5 {K : Type} [Lean.Grind.CommRing K] {x1 y1 : K} (h1 : y1 * y1 = x1 * x1 * x1 + 7) :
    (y1 + y1) * (y1 + y1) * ec_X (x1, y1, 1) (x1, y1, 1) = ec_nx (y1 + y1) (3 * (x1 * x1)) x1 x1 * ec_Z (x1, y1, 1) (x1, y1, 1) := by
  have h := zp_zero (x1 := x1) (x2 := x1) (x3 := x1) (y1 := y1) (y2 := y1) (y3 := y1) zp_i5
  simp only [zp_U, zp_V, zp_ev_sb, zp_ev_add, zp_ev_mu h1 h1 h1, zp_ev_nx h1 h1 h1, zp_ev_X h1 h1 h1, zp_ev_Z h1 h1 h1, zp_et_p1, zp_ev_x1, zp_ev_y1, zp_ev_k, show zp_c (K := K) 3 = 3 from zp_c_nat 3] at h
  exact ec_sub0 h
theorem ec_i6 {K : Type} [Lean.Grind.CommRing K] {x1 y1 : K} (h1 : y1 * y1 = x1 * x1 * x1 + 7) :
    (y1 + y1) * (y1 + y1) * (y1 + y1) * ec_Y (x1, y1, 1) (x1, y1, 1) = ec_ny (y1 + y1) (3 * (x1 * x1)) x1 x1 y1 * ec_Z (x1, y1, 1) (x1, y1, 1) := by
  have h := zp_zero (x1 := x1) (x2 := x1) (x3 := x1) (y1 := y1) (y2 := y1) (y3 := y1) zp_i6
  simp only [zp_U, zp_V, zp_ev_sb, zp_ev_add, zp_ev_mu h1 h1 h1, zp_ev_ny h1 h1 h1, zp_ev_Y h1 h1 h1, zp_ev_Z h1 h1 h1, zp_et_p1, zp_ev_x1, zp_ev_y1, zp_ev_k, show zp_c (K := K) 3 = 3 from zp_c_nat 3] at h
  exact ec_sub0 h
theorem ec_i7 {K : Type} [Lean.Grind.CommRing K] {x1 y1 : K} (h1 : y1 * y1 = x1 * x1 * x1 + 7) : ec_Z (x1, y1, 1) (x1, y1, 1) = (y1 + y1) * (y1 + y1) * (y1 + y1) := by
  have h := zp_zero (x1 := x1) (x2 := x1) (x3 := x1) (y1 := y1) (y2 := y1) (y3 := y1) zp_i7
  simp only [zp_U, zp_ev_sb, zp_ev_add, zp_ev_mu h1 h1 h1, zp_ev_Z h1 h1 h1, zp_et_p1, zp_ev_x1, zp_ev_y1] at h
  exact ec_sub0 h
theorem ec_i8 {K : Type} [Lean.Grind.CommRing K] {x1 y1 : K} (h1 : y1 * y1 = x1 * x1 * x1 + 7) :
    ec_ny (y1 + y1) (3 * (x1 * x1)) x1 x1 y1 * ec_ny (y1 + y1) (3 * (x1 * x1)) x1 x1 y1 = ec_nx (y1 + y1) (3 * (x1 * x1)) x1 x1 * ec_nx (y1 + y1) (3 * (x1 * x1)) x1 x1 * ec_nx (y1 + y1) (3 * (x1 * x1)) x1 x1 + 7 * ((y1 + y1) * (y1 + y1) * (y1 + y1) * ((y1 + y1) * (y1 + y1) * (y1 + y1))) := by
  have h := zp_zero (x1 := x1) (x2 := x1) (x3 := x1) (y1 := y1) (y2 := y1) (y3 := y1) zp_i8
  simp only [zp_U, zp_V, zp_ev_sb, zp_ev_add, zp_ev_mu h1 h1 h1, zp_ev_ny h1 h1 h1, zp_ev_nx h1 h1 h1, zp_ev_x1, zp_ev_y1, zp_ev_k, show zp_c (K := K) 7 = 7 from zp_c_nat 7, show zp_c (K := K) 3 = 3 from zp_c_nat 3] at h
  exact ec_sub0 h
theorem ec_i9 {K : Type} [Lean.Grind.CommRing K] {x1 y1 : K} (h1 : y1 * y1 = x1 * x1 * x1 + 7) : ec_Y (x1, y1, 1) (x1, -y1, 1) = ec_ny (y1 + y1) (3 * (x1 * x1)) x1 x1 y1 := by
  have h := zp_zero (x1 := x1) (x2 := x1) (x3 := x1) (y1 := y1) (y2 := y1) (y3 := y1) zp_i9
  rw [zp_ev_sb, zp_ev_Y h1 h1 h1, zp_ev_ny h1 h1 h1, zp_et_p1] at h
  simp only [zp_et, zp_U, zp_V, zp_ev_ng, zp_ev_add, zp_ev_mu h1 h1 h1, zp_ev_x1, zp_ev_y1, zp_ev_k, zp_c_1, show zp_c (K := K) 3 = 3 from zp_c_nat 3] at h
  exact ec_sub0 h
end
