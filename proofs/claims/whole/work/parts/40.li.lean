/-! Longs as whole numbers. -/
theorem wb_tb (n : Nat) : (lN n).toBitVec = BitVec.ofNat 64 n := rfl
theorem wb_inj {a b : Int64} (h : a.toBitVec = b.toBitVec) : a = b := Int64.toBitVec_inj.mp h
theorem wb_tn {n : Nat} (h : n < 2 ^ 64) : (lN n).toBitVec.toNat = n := by rw [wb_tb, BitVec.toNat_ofNat, Nat.mod_eq_of_lt h]
theorem wb_of (x : Int64) : ∃ n, n < 2 ^ 64 ∧ x = lN n := ⟨x.toBitVec.toNat, x.toBitVec.isLt, wb_inj (by rw [wb_tb]; simp)⟩
theorem wb_of32 (x : Int32) : ∃ n, n < 2 ^ 32 ∧ x = nI n := ⟨x.toBitVec.toNat, x.toBitVec.isLt, Int32.toBitVec_inj.mp (by show _ = BitVec.ofNat 32 _; simp)⟩
theorem wb_c : ∀ k, k < 64 → ((nI k).toInt64 &&& 63) = lN k := by decide +kernel
theorem wb_cu : ∀ k, k < 64 → ((nI k).toInt64.toUInt64 &&& Int64.toUInt64 63) = UInt64.ofNat k := by decide +kernel
theorem wb_sm : ∀ k, k < 64 → (BitVec.ofNat 64 k).smod 64 = BitVec.ofNat 64 k := by decide +kernel
theorem wb_pw {a b : Nat} (h : a ≤ b) : 2 ^ b = 2 ^ a * 2 ^ (b - a) := by rw [← Nat.pow_add]; congr 1; omega
theorem wb_lt2 {a b : Nat} (h : a < b) : 2 ^ a < 2 ^ b := Nat.pow_lt_pow_right (by decide) h
theorem wb_mod (n : Nat) : lN n = lN (n % 2 ^ 64) := wb_inj (by rw [wb_tb, wb_tb]; apply BitVec.eq_of_toNat_eq; rw [BitVec.toNat_ofNat, BitVec.toNat_ofNat, Nat.mod_mod])
theorem wb_shr {n k : Nat} (hn : n < 2 ^ 64) (hk : k < 64) : ((lN n).toUInt64 >>> ((nI k).toInt64.toUInt64 &&& Int64.toUInt64 63)).toInt64 = lN (n / 2 ^ k) := by
  rw [wb_cu k hk]
  apply wb_inj
  apply BitVec.eq_of_toNat_eq
  show ((lN n).toUInt64 >>> UInt64.ofNat k).toNat = (BitVec.ofNat 64 _).toNat
  have h1 : (UInt64.ofNat k).toNat = k := by
    show (BitVec.ofNat 64 k).toNat = k
    rw [BitVec.toNat_ofNat, Nat.mod_eq_of_lt (by omega)]
  have h2 : (lN n).toUInt64.toNat = n := wb_tn hn
  rw [UInt64.toNat_shiftRight, h1, h2, Nat.mod_eq_of_lt hk, Nat.shiftRight_eq_div_pow, BitVec.toNat_ofNat, Nat.mod_eq_of_lt (Nat.lt_of_le_of_lt (Nat.div_le_self _ _) hn)]
theorem wb_and {a b : Nat} (ha : a < 2 ^ 64) (hb : b < 2 ^ 64) : lN a &&& lN b = lN (a &&& b) := by
  apply wb_inj
  rw [Int64.toBitVec_and, wb_tb, wb_tb, wb_tb]
  apply BitVec.eq_of_toNat_eq
  rw [BitVec.toNat_and, BitVec.toNat_ofNat, BitVec.toNat_ofNat, BitVec.toNat_ofNat, Nat.mod_eq_of_lt ha, Nat.mod_eq_of_lt hb, Nat.mod_eq_of_lt (Nat.and_lt_two_pow _ hb)]
theorem wb_mask {n k : Nat} (hn : n < 2 ^ 64) (hk : k < 64) : lN n &&& lN (2 ^ k - 1) = lN (n % 2 ^ k) := by
  rw [wb_and hn (by have := wb_lt2 hk; omega), Nat.and_two_pow_sub_one_eq_mod]
theorem wb_a1 {n : Nat} (hn : n < 2 ^ 64) : lN n &&& 1 = lN (n % 2) := wb_mask (k := 1) hn (by decide)
theorem wb_bit {n k : Nat} (hn : n < 2 ^ 64) (hk : k < 64) : ((lN n).toUInt64 >>> ((nI k).toInt64.toUInt64 &&& Int64.toUInt64 63)).toInt64 &&& 1 = lN (n / 2 ^ k % 2) := by
  rw [wb_shr hn hk, wb_a1 (Nat.lt_of_le_of_lt (Nat.div_le_self _ _) hn)]

def li (z : Int) : Int64 := Int64.ofInt z
theorem li_add (a b : Int) : li a + li b = li (a + b) := (Int64.ofInt_add a b).symm
theorem li_sub (a b : Int) : li a - li b = li (a - b) := (Int64.ofInt_sub a b).symm
theorem li_mul (a b : Int) : li a * li b = li (a * b) := (Int64.ofInt_mul a b).symm
theorem li_n (n : Nat) : li (n : Int) = lN n := Int64.ofInt_eq_ofNat
theorem li_toInt {z : Int} (h1 : -9223372036854775808 ≤ z) (h2 : z < 9223372036854775808) : (li z).toInt = z := Int64.toInt_ofInt_of_le (by omega) (by omega)
theorem li_of (x : Int64) : x = li x.toInt := (Int64.ofInt_toInt x).symm
theorem li_ex (x : Int64) : ∃ z, (-9223372036854775808 ≤ z ∧ z < 9223372036854775808) ∧ x = li z := ⟨x.toInt, ⟨by have := x.le_toInt; omega, by have := x.toInt_lt; omega⟩, li_of x⟩
theorem li_inj {a b : Int} (h1 : -9223372036854775808 ≤ a) (h2 : a < 9223372036854775808) (h3 : -9223372036854775808 ≤ b) (h4 : b < 9223372036854775808) : li a = li b ↔ a = b := ⟨fun h => by rw [← li_toInt h1 h2, ← li_toInt h3 h4, h], fun h => by rw [h]⟩
theorem li_div {a b : Int} (h1 : -9223372036854775808 ≤ a) (h2 : a < 9223372036854775808) (h3 : -9223372036854775808 ≤ b) (h4 : b < 9223372036854775808) : li a / li b = li (a.tdiv b) := by
  have e1 : Int64.minValue.toInt = -9223372036854775808 := by decide
  have e2 : Int64.maxValue.toInt = 9223372036854775807 := by decide
  exact (Int64.ofInt_tdiv (by omega) (by omega) (by omega) (by omega)).symm
theorem li_divp {a b : Int} (h1 : 0 ≤ a) (h2 : a < 9223372036854775808) (h3 : -9223372036854775808 ≤ b) (h4 : b < 9223372036854775808) : li a / li b = li (a / b) := by
  rw [li_div (by omega) h2 h3 h4, Int.tdiv_eq_ediv_of_nonneg h1]
theorem li_rem {a b : Int} (h1 : -9223372036854775808 ≤ a) (h2 : a < 9223372036854775808) (h3 : -9223372036854775808 ≤ b) (h4 : b < 9223372036854775808) : li a - li a / li b * li b = li (a.tmod b) := by
  rw [li_div h1 h2 h3 h4, li_mul, li_sub]
  have := Int.tmod_add_mul_tdiv a b
  rw [Int.mul_comm (a.tdiv b) b]
  rw [show a - b * a.tdiv b = a.tmod b by omega]
theorem li_remp {a b : Int} (h1 : 0 ≤ a) (h2 : a < 9223372036854775808) (h3 : -9223372036854775808 ≤ b) (h4 : b < 9223372036854775808) : li a - li a / li b * li b = li (a % b) := by
  rw [li_rem (by omega) h2 h3 h4, Int.tmod_eq_emod_of_nonneg h1]
theorem lc_eq {a b : Int} (h1 : -9223372036854775808 ≤ a) (h2 : a < 9223372036854775808) (h3 : -9223372036854775808 ≤ b) (h4 : b < 9223372036854775808) : (lg_cmp (li a) (li b) = 0) ↔ a = b := by rw [lg_cmp_eq, li_inj h1 h2 h3 h4]
theorem lc_lt {a b : Int} (h1 : -9223372036854775808 ≤ a) (h2 : a < 9223372036854775808) (h3 : -9223372036854775808 ≤ b) (h4 : b < 9223372036854775808) : (lg_cmp (li a) (li b) < 0) ↔ a < b := by rw [lg_cmp_lt, Int64.lt_iff_toInt_lt, li_toInt h1 h2, li_toInt h3 h4]
theorem lc_le {a b : Int} (h1 : -9223372036854775808 ≤ a) (h2 : a < 9223372036854775808) (h3 : -9223372036854775808 ≤ b) (h4 : b < 9223372036854775808) : (lg_cmp (li a) (li b) ≤ 0) ↔ a ≤ b := by rw [lg_cmp_le, Int64.le_iff_toInt_le, li_toInt h1 h2, li_toInt h3 h4]
theorem lc_ge {a b : Int} (h1 : -9223372036854775808 ≤ a) (h2 : a < 9223372036854775808) (h3 : -9223372036854775808 ≤ b) (h4 : b < 9223372036854775808) : (0 ≤ lg_cmp (li a) (li b)) ↔ b ≤ a := by rw [lg_cmp_ge, Int64.le_iff_toInt_le, li_toInt h1 h2, li_toInt h3 h4]
theorem l_p : (1073735023 : Int64) = li 1073735023 := by decide +kernel
theorem l_q : (1073729077 : Int64) = li 1073729077 := by decide +kernel
theorem l_q1 : (1073729076 : Int64) = li 1073729076 := by decide +kernel
theorem l_0 : (0 : Int64) = li 0 := by decide +kernel
theorem l_1 : (1 : Int64) = li 1 := by decide +kernel
theorem l_2 : (2 : Int64) = li 2 := by decide +kernel
theorem l_3 : (3 : Int64) = li 3 := by decide +kernel
theorem l_7 : (7 : Int64) = li 7 := by decide +kernel
theorem l_m : (-1 : Int64) = li (-1) := by decide +kernel
theorem l_h : (536864538 : Int64) = li 536864538 := by decide +kernel
theorem l_w : (4294967296 : Int64) = li 4294967296 := by decide +kernel
theorem l_v : (2147483648 : Int64) = li 2147483648 := by decide +kernel
theorem l_r : (268433756 : Int64) = li 268433756 := by decide +kernel
theorem li_bit {k i : Nat} (hk : k < 2 ^ 62) (hi : i < 64) : (((li k).toUInt64 >>> ((Int32.toInt64 (nI i)).toUInt64 &&& Int64.toUInt64 63)).toInt64 &&& 1) = li ((k / 2 ^ i % 2 : Nat) : Int) := by
  rw [li_n, li_n]
  exact wb_bit (by omega) hi
/-! remainders -/
theorem tm_fix (z m : Int) (hm : 0 < m) : (if 0 ≤ z.tmod m then z.tmod m else z.tmod m + m) = z % m := by
  have q1 := Int.emod_nonneg z (show m ≠ 0 by omega)
  have q2 := Int.emod_lt_of_pos z hm
  rw [Int.tmod_eq_emod]
  by_cases h : 0 ≤ z ∨ m ∣ z
  · rw [if_pos h, if_pos (by omega)]; omega
  · rw [if_neg h]
    have h3 : z % m ≠ 0 := fun h0 => h (Or.inr (Int.dvd_of_emod_eq_zero h0))
    rw [if_neg (by omega)]
    omega
theorem tm_bd (z m : Int) (hm : 0 < m) : -m < z.tmod m ∧ z.tmod m < m := by
  have q1 := Int.emod_nonneg z (show m ≠ 0 by omega)
  have q2 := Int.emod_lt_of_pos z hm
  rw [Int.tmod_eq_emod]
  by_cases h : 0 ≤ z ∨ m ∣ z
  · rw [if_pos h]; omega
  · rw [if_neg h]
    have h3 : z % m ≠ 0 := fun h0 => h (Or.inr (Int.dvd_of_emod_eq_zero h0))
    omega
theorem red_gen {z m : Int} (h1 : -9223372036854775808 ≤ z) (h2 : z < 9223372036854775808) (hm : 0 < m) (hm2 : m < 4294967296) : Option.bind (some (li z - li z / li m * li m)) (fun v1 => Option.bind (if 0 ≤ (lg_cmp v1 (li 0)) then (some (v1) : Option (Int64)) else (some (v1 + li m))) (fun j2 => some (j2))) = some (li (z % m)) := by
  simp only [Option.bind_some]
  rw [li_rem h1 h2 (by omega) (by omega)]
  have hb := tm_bd z m hm
  rw [← tm_fix z m (by omega)]
  simp (disch := omega) only [lc_ge, li_add]
  by_cases h0 : 0 ≤ z.tmod m
  · simp only [if_pos h0, Option.bind_some]
  · simp only [if_neg h0, Option.bind_some]
theorem s_F_reduced {z : Int} (h1 : -9223372036854775808 ≤ z) (h2 : z < 9223372036854775808) : f_F_reduced (li z) = some (li (z % 1073735023)) := by
  have h := red_gen (m := 1073735023) h1 h2 (by omega) (by omega)
  unfold f_F_reduced
  rw [← l_p, ← l_0] at h
  exact h
theorem s_M_mod {z m : Int} (h1 : -9223372036854775808 ≤ z) (h2 : z < 9223372036854775808) (hm : 0 < m) (hm2 : m < 4294967296) : f_M_mod (li z) (li m) = some (li (z % m)) := by
  unfold f_M_mod
  have h9 : ¬ li m = 0 := fun h0 => by rw [l_0, li_inj (by omega) (by omega) (by omega) (by omega)] at h0; omega
  rw [if_neg h9]
  simp only [l_0, Option.bind_some]
  rw [li_rem h1 h2 (by omega) (by omega)]
  have hb := tm_bd z m hm
  rw [← tm_fix z m (by omega)]
  simp (disch := omega) only [lc_ge, li_add]
  by_cases h0 : 0 ≤ z.tmod m
  · simp only [if_pos h0, Option.bind_some]
  · simp only [if_neg h0, Option.bind_some]
