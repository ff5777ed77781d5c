/-! No point but none is of an order below n, where n points come from one of order n: there aren't three times as many points. -/
theorem eo_ph : ∀ (m n : Nat) (f : Nat → Nat), (∀ i, i < n → f i < m) → (∀ i j, i < n → j < n → f i = f j → i = j) → n ≤ m
  | 0, n, f, h, _ => by
    cases n with
    | zero => exact Nat.le_refl _
    | succ k => exact absurd (h 0 (Nat.succ_pos k)) (Nat.not_lt_zero _)
  | m + 1, n, f, h, hi => by
    cases n with
    | zero => exact Nat.zero_le _
    | succ k =>
      have hg := eo_ph m k (fun i => if f i = m then f k else f i) (fun i hik => ?_) (fun i j hik hjk hij => ?_)
      · exact Nat.succ_le_succ hg
      · have h1 := h i (by omega)
        have h2 := h k (by omega)
        show (if f i = m then f k else f i) < m
        by_cases he : f i = m
        · rw [if_pos he]
          have h3 : f k ≠ m := fun z => by
            have := hi i k (by omega) (by omega) (he.trans z.symm)
            omega
          omega
        · rw [if_neg he]
          omega
      · have hij : (if f i = m then f k else f i) = (if f j = m then f k else f j) := hij
        by_cases he : f i = m
        · by_cases hf : f j = m
          · exact hi i j (by omega) (by omega) (he.trans hf.symm)
          · rw [if_pos he, if_neg hf] at hij
            have := hi k j (by omega) (by omega) hij
            omega
        · by_cases hf : f j = m
          · rw [if_neg he, if_pos hf] at hij
            have := hi i k (by omega) (by omega) hij
            omega
          · rw [if_neg he, if_neg hf] at hij
            exact hi i j (by omega) (by omega) hij
theorem eo_bez {n m : Nat} (hn : nt_P n) (h0 : 0 < m) (h1 : m < n) : ∃ a c, m * a = 1 + n * c := by
  have h2 : m % n ≠ 0 := by rw [Nat.mod_eq_of_lt h1]; omega
  have h3 := nt_inv hn h2
  refine ⟨m ^ (n - 2) % n, m ^ (n - 2) % n * m / n, ?_⟩
  have h4 := Nat.div_add_mod (m ^ (n - 2) % n * m) n
  rw [h3] at h4
  rw [Nat.mul_comm m]
  omega
theorem eo_one {K : Type} [Lean.Grind.CommRing K] [DecidableEq K] {iv : K → K} (hF : ec_F K iv) {Q : Option (K × K)} (hQ : ec_on Q) {n m : Nat} (hn : nt_P n) (h0 : 0 < m) (h1 : m < n) (hnQ : ec_n iv Q n = none) (hmQ : ec_n iv Q m = none) : Q = none := by
  obtain ⟨a, c, h⟩ := eo_bez hn h0 h1
  have e1 : ec_n iv Q (m * a) = none := by rw [← ec_n_mul hF hQ, hmQ, ec_n_0]
  have e2 : ec_n iv Q (1 + n * c) = Q := by
    rw [← ec_n_add hF hQ, ← ec_n_mul hF hQ, hnQ, ec_n_0, ec_n_1]
    cases Q <;> rfl
  rw [← e2, ← h, e1]
theorem eo_meet {K : Type} [Lean.Grind.CommRing K] [DecidableEq K] {iv : K → K} (hF : ec_F K iv) {G P : Option (K × K)} (hG : ec_on G) (hP : ec_on P) {n m : Nat} (hn : nt_P n) (h0 : 0 < m) (h1 : m < n) (hnG : ec_n iv G n = none) (hmP : ec_n iv P m = none)
    {i j : Nat} (h : ec_n iv P j = ec_n iv G i) : ec_n iv P j = none := by
  refine eo_one hF (ec_on_n hF hP j) hn h0 h1 ?_ ?_
  · rw [h, ec_n_mul hF hG, Nat.mul_comm, ← ec_n_mul hF hG, hnG, ec_n_0]
  · rw [ec_n_mul hF hP, Nat.mul_comm, ← ec_n_mul hF hP, hmP, ec_n_0]
theorem eo_none {K : Type} [Lean.Grind.CommRing K] [DecidableEq K] (iv : K → K) (X : Option (K × K)) : ec_ad iv X none = X := by cases X <;> rfl
theorem eo_inj {K : Type} [Lean.Grind.CommRing K] [DecidableEq K] {iv : K → K} (hF : ec_F K iv) {G P : Option (K × K)} (hG : ec_on G) (hP : ec_on P) {n m : Nat} (hn : nt_P n) (h1 : m < n) (hnG : ec_n iv G n = none) (hmP : ec_n iv P m = none) (hG0 : G ≠ none)
    (hmin : ∀ k, 0 < k → k < m → ec_n iv P k ≠ none) {i j i' j' : Nat} (hi : i < n) (hi' : i' < n) (hj : j < m) (hj' : j' < m) (h : ec_ad iv (ec_n iv G i) (ec_n iv P j) = ec_ad iv (ec_n iv G i') (ec_n iv P j')) : i = i' ∧ j = j' := by
  have oG := ec_on_n hF hG
  have oP := ec_on_n hF hP
  have key : ∀ a b c d, ec_ad iv (ec_ad iv (ec_n iv G a) (ec_n iv P b)) (ec_ad iv (ec_n iv G c) (ec_n iv P d)) = ec_ad iv (ec_n iv G (a + c)) (ec_n iv P (b + d)) := by
    intro a b c d
    rw [ec_assoc hF (oG a) (oP b) (ec_on_ad hF (oG c) (oP d)), ← ec_assoc hF (oP b) (oG c) (oP d), ec_comm hF (oP b) (oG c), ec_assoc hF (oG c) (oP b) (oP d), ec_n_add hF hP, ← ec_assoc hF (oG a) (oG c) (oP (b + d)), ec_n_add hF hG]
  have e1 := key i j (n - i) (m - j)
  have e2 := key i' j' (n - i) (m - j)
  rw [h, e2, show i + (n - i) = n by omega, show j + (m - j) = m by omega, hnG, hmP] at e1
  have e3 : ec_ad iv (ec_n iv G (i' + (n - i))) (ec_n iv P (j' + (m - j))) = none := e1
  have e4 : ec_n iv P (j' + (m - j)) = ec_n iv G ((i' + (n - i)) * (n - 1)) := by
    have z1 : ec_ad iv (ec_n iv G ((i' + (n - i)) * (n - 1))) (ec_n iv G (i' + (n - i))) = none := by
      rw [ec_n_add hF hG]
      have : (i' + (n - i)) * (n - 1) + (i' + (n - i)) = n * (i' + (n - i)) := by
        obtain ⟨q, rfl⟩ : ∃ q, n = q + 1 := ⟨n - 1, by omega⟩
        rw [Nat.add_sub_cancel, Nat.mul_comm, Nat.add_mul, Nat.one_mul]
      rw [this, ← ec_n_mul hF hG, hnG, ec_n_0]
    have z2 := ec_assoc hF (oG ((i' + (n - i)) * (n - 1))) (oG (i' + (n - i))) (oP (j' + (m - j)))
    rw [z1, e3, eo_none] at z2
    exact z2
  have e5 := eo_meet hF hG hP hn (by omega) h1 hnG hmP e4
  have e6 : j' + (m - j) = m := by
    have z1 := ec_n_mod hF hP hmP (j' + (m - j))
    rw [e5] at z1
    by_cases c1 : j' + (m - j) < m
    · rw [Nat.mod_eq_of_lt c1] at z1
      exact absurd z1 (hmin _ (by omega) c1)
    · have z2 : (j' + (m - j)) % m = j' + (m - j) - m := by
        rw [Nat.mod_eq_sub_mod (by omega), Nat.mod_eq_of_lt (by omega)]
      rw [z2] at z1
      by_cases c2 : j' + (m - j) = m
      · exact c2
      · exact absurd z1 (hmin _ (by omega) (by omega))
  have e7 : ec_n iv G (i' + (n - i)) = none := by
    rw [e5, eo_none] at e3
    exact e3
  have e8 : i' + (n - i) = n := by
    have z1 := ec_n_mod hF hG hnG (i' + (n - i))
    rw [e7] at z1
    have z3 : ∀ k, 0 < k → k < n → ec_n iv G k ≠ none := fun k k0 k1 z => hG0 (eo_one hF hG hn k0 k1 hnG z)
    by_cases c1 : i' + (n - i) < n
    · rw [Nat.mod_eq_of_lt c1] at z1
      exact absurd z1 (z3 _ (by omega) c1)
    · have z2 : (i' + (n - i)) % n = i' + (n - i) - n := by
        rw [Nat.mod_eq_sub_mod (by omega), Nat.mod_eq_of_lt (by omega)]
      rw [z2] at z1
      by_cases c2 : i' + (n - i) = n
      · exact c2
      · exact absurd z1 (z3 _ (by omega) (by omega))
  exact ⟨by omega, by omega⟩
/-- 'num' numbers the points below b; three times n is more than b -/
theorem eo_order {K : Type} [Lean.Grind.CommRing K] [DecidableEq K] {iv : K → K} (hF : ec_F K iv) {G : Option (K × K)} (hG : ec_on G) {n b : Nat} (hn : nt_P n) (hnG : ec_n iv G n = none) (hG0 : G ≠ none) (num : Option (K × K) → Nat) (hb : ∀ Q, ec_on Q → num Q < b)
    (hinj : ∀ Q R, ec_on Q → ec_on R → num Q = num R → Q = R) (h3 : b < 3 * n) {P : Option (K × K)} (hP : ec_on P) (hP0 : P ≠ none) {d : Nat} (h0 : 0 < d) (hd : d < n) : ec_n iv P d ≠ none := by
  intro hz
  obtain ⟨m, ⟨hm0, hmz⟩, hmin⟩ := pk_least (fun k => 0 < k ∧ ec_n iv P k = none) ⟨d, h0, hz⟩
  have hmd : m ≤ d := Nat.le_of_not_lt fun z => hmin d z ⟨h0, hz⟩
  have m1 : m ≠ 1 := fun z => hP0 (by rw [z] at hmz; exact hmz)
  have m2 : m ≠ 2 := by
    intro z
    rw [z] at hmz
    have hmz : ec_ad iv P P = none := hmz
    cases P with
    | none => exact hP0 rfl
    | some p =>
      obtain ⟨x1, y1⟩ := p
      rw [ec_ad_some, if_pos rfl, if_pos rfl] at hmz
      cases hmz
  have hlt : m < n := by omega
  have hcount := eo_ph b (3 * n) (fun t => num (ec_ad iv (ec_n iv G (t / 3)) (ec_n iv P (t % 3)))) (fun t _ => hb _ (ec_on_ad hF (ec_on_n hF hG _) (ec_on_n hF hP _))) (fun s t hs ht hst => by
    have e := hinj _ _ (ec_on_ad hF (ec_on_n hF hG _) (ec_on_n hF hP _)) (ec_on_ad hF (ec_on_n hF hG _) (ec_on_n hF hP _)) hst
    have e2 := eo_inj hF hG hP hn hlt hnG hmz hG0 (fun k k0 k1 z => hmin k k1 ⟨k0, z⟩) (i := s / 3) (j := s % 3) (i' := t / 3) (j' := t % 3) (by omega) (by omega) (by omega) (by omega) e
    omega)
  omega
