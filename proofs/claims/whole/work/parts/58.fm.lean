/-! Bytes of a number; the written form as laid by the reference and as said by the class. -/
theorem nx_cnt : ∀ j : Fin 32, (UInt32.ofNat j.val &&& Int32.toUInt32 31).toNat % 32 = j.val := by decide +kernel
theorem by_u {k j : Nat} (hk : k < 4294967296) (hj : j < 32) : ((nI k).toUInt32 >>> ((nI j).toUInt32 &&& Int32.toUInt32 31)).toInt32 = nI (k / 2 ^ j) := by
  have hs : k / 2 ^ j ≤ k := Nat.div_le_self _ _
  have e2 : UInt32.ofNat k >>> (UInt32.ofNat j &&& Int32.toUInt32 31) = UInt32.ofNat (k / 2 ^ j) := by
    apply UInt32.toNat_inj.1
    have h1 : (UInt32.ofNat k).toNat = k := Nat.mod_eq_of_lt (by omega)
    have h2 : (UInt32.ofNat (k / 2 ^ j)).toNat = k / 2 ^ j := Nat.mod_eq_of_lt (by omega)
    rw [UInt32.toNat_shiftRight, nx_cnt ⟨j, hj⟩, h1, h2, Nat.shiftRight_eq_div_pow]
  show (UInt32.ofNat k >>> (UInt32.ofNat j &&& Int32.toUInt32 31)).toInt32 = _
  rw [e2]
  rfl
theorem by_and (a b : Nat) : nI a &&& nI b = nI (a &&& b) := by
  apply Int32.toBitVec_inj.1
  show BitVec.ofNat 32 a &&& BitVec.ofNat 32 b = BitVec.ofNat 32 (a &&& b)
  apply BitVec.eq_of_getLsbD_eq
  intro i hi
  simp [hi]
theorem by_255 (k : Nat) : nI k &&& 255 = nI (k % 256) := by
  show nI k &&& nI 255 = _
  rw [by_and, show (255 : Nat) = 2 ^ 8 - 1 from rfl, Nat.and_two_pow_sub_one_eq_mod]
theorem by_l : ∀ n, n < 32 → ((nI n &&& 31).toBitVec.smod 32).toNat = n := by decide +kernel
theorem by_s {k n : Nat} (hk : k < 2147483648) (hn : n < 32) : nI k >>> (nI n &&& 31) = nI (k / 2 ^ n) := by
  have hs : k / 2 ^ n ≤ k := Nat.div_le_self _ _
  apply Int32.toBitVec_inj.1
  rw [Int32.toBitVec_shiftRight]
  show (BitVec.ofNat 32 k).sshiftRight ((nI n &&& 31).toBitVec.smod 32).toNat = BitVec.ofNat 32 (k / 2 ^ n)
  rw [by_l n hn]
  have h1 : (BitVec.ofNat 32 k).toNat = k := by rw [BitVec.toNat_ofNat]; exact Nat.mod_eq_of_lt (by omega)
  have h2 : (BitVec.ofNat 32 k).msb = false := by rw [BitVec.msb_eq_decide, h1]; exact decide_eq_false (by omega)
  rw [BitVec.sshiftRight_eq_of_msb_false h2]
  apply BitVec.eq_of_toNat_eq
  rw [BitVec.toNat_ushiftRight, h1, BitVec.toNat_ofNat, Nat.shiftRight_eq_div_pow, Nat.mod_eq_of_lt (by omega)]
theorem by_or {a b : Nat} (ha : a < 16777216) (hb : b < 256) : (nI a <<< (8 &&& 31)) ||| nI b = nI (a * 256 + b) := by
  apply Int32.toBitVec_inj.1
  rw [Int32.toBitVec_or, Int32.toBitVec_shiftLeft]
  show (BitVec.ofNat 32 a <<< (((8 : Int32) &&& 31).toBitVec.smod 32).toNat) ||| BitVec.ofNat 32 b = BitVec.ofNat 32 (a * 256 + b)
  rw [show (((8 : Int32) &&& 31).toBitVec.smod 32).toNat = 8 by decide]
  apply BitVec.eq_of_toNat_eq
  have h1 : a * 2 ^ 8 ||| b = a * 2 ^ 8 + b := by rw [← Nat.shiftLeft_eq, Nat.shiftLeft_add_eq_or_of_lt (show b < 2 ^ 8 by omega)]
  rw [BitVec.toNat_or, BitVec.toNat_shiftLeft, BitVec.toNat_ofNat, BitVec.toNat_ofNat, BitVec.toNat_ofNat, Nat.shiftLeft_eq, Nat.mod_eq_of_lt (show a < 2 ^ 32 by omega), Nat.mod_eq_of_lt (show b < 2 ^ 32 by omega), Nat.mod_eq_of_lt (show a * 2 ^ 8 < 2 ^ 32 by omega), h1, Nat.mod_eq_of_lt (show a * 256 + b < 2 ^ 32 by omega)]
def bo (r : Nat) : Nat := if r < 128 then 1 else if r < 32768 then 2 else if r < 8388608 then 3 else 4
theorem bo_b (r : Nat) : 1 ≤ bo r ∧ bo r ≤ 4 := by
  unfold bo
  split
  · omega
  · split
    · omega
    · split <;> omega
theorem bo_p {r : Nat} (h : r < 2147483648) : r / 2 ^ (8 * bo r) = 0 := by
  unfold bo
  split
  · exact Nat.div_eq_of_lt (by omega)
  · split
    · exact Nat.div_eq_of_lt (by omega)
    · split
      · exact Nat.div_eq_of_lt (by omega)
      · exact Nat.div_eq_of_lt (by omega)
theorem bo_if {r : Nat} (h : r < 2147483648) : (128 ≤ nI r ↔ 128 ≤ r) ∧ (32768 ≤ nI r ↔ 32768 ≤ r) ∧ (8388608 ≤ nI r ↔ 8388608 ≤ r) := by
  have H : ∀ n : Nat, n < 2147483648 → (nI n ≤ nI r ↔ n ≤ r) := fun n hn => ⟨fun h1 => by
    rcases Nat.lt_or_ge r n with h2 | h2
    · exact absurd h1 (nI_ge h2 hn)
    · exact h2, fun h1 => nI_le h1 h⟩
  exact ⟨H 128 (by omega), H 32768 (by omega), H 8388608 (by omega)⟩
theorem s_O_bytesOf {r : Nat} (h : r < 2147483648) : f_O_bytesOf (nI r) = some (nI (bo r)) := by
  obtain ⟨h1, h2, h3⟩ := bo_if h
  unfold f_O_bytesOf bo
  by_cases c1 : r < 128
  · rw [if_neg (fun h9 => absurd (h1.mp h9) (by omega)), if_pos c1]
    rfl
  rw [if_pos (h1.mpr (by omega)), if_neg c1]
  by_cases c2 : r < 32768
  · rw [if_neg (fun h9 => absurd (h2.mp h9) (by omega)), if_pos c2]
    rfl
  rw [if_pos (h2.mpr (by omega)), if_neg c2]
  by_cases c3 : r < 8388608
  · rw [if_neg (fun h9 => absurd (h3.mp h9) (by omega)), if_pos c3, ob]
    rfl
  rw [if_pos (h3.mpr (by omega)), if_neg c3, ob]
  rfl
theorem s_M_bytesOf {r : Nat} (h : r < 2147483648) : f_M_bytesOf (nI r) = some (nI (bo r)) := by
  obtain ⟨h1, h2, h3⟩ := bo_if h
  unfold f_M_bytesOf bo
  by_cases c1 : r < 128
  · rw [if_neg (fun h9 => absurd (h1.mp h9) (by omega)), if_pos c1, ob]
    rfl
  rw [if_pos (h1.mpr (by omega)), if_neg c1]
  by_cases c2 : r < 32768
  · rw [if_neg (fun h9 => absurd (h2.mp h9) (by omega)), if_pos c2, ob]
    rfl
  rw [if_pos (h2.mpr (by omega)), if_neg c2]
  by_cases c3 : r < 8388608
  · rw [if_neg (fun h9 => absurd (h3.mp h9) (by omega)), if_pos c3, ob]
    rfl
  rw [if_pos (h3.mpr (by omega)), if_neg c3, ob]
  rfl
/-- byte j of a number with its head -/
def nb (r j : Nat) : Nat := if j = 0 then 2 else if j = 1 then bo r else r / 2 ^ (8 * (bo r + 1 - j)) % 256
/-- byte i of the form -/
def fb (r s i : Nat) : Nat := if i = 0 then 48 else if i = 1 then 4 + bo r + bo s else if i < 4 + bo r then nb r (i - 2) else nb s (i - (4 + bo r))
def fl (r s : Nat) : Nat := 6 + bo r + bo s
theorem fl_b (r s : Nat) : 8 ≤ fl r s ∧ fl r s ≤ 14 := by
  have := bo_b r
  have := bo_b s
  unfold fl
  omega
theorem s_O_length {r s : Nat} (hr : r < 2147483648) (hs : s < 2147483648) : f_O_length (nI r) (nI s) = some (nI (fl r s)) := by
  unfold f_O_length fl
  rw [s_O_bytesOf hr, s_O_bytesOf hs, ob, ob, show (6 : Int32) = nI 6 from rfl, nI_add, nI_add]
theorem nI_sb {a b : Nat} (h : b ≤ a) : nI a - nI b = nI (a - b) := by
  obtain ⟨d, rfl⟩ := Nat.exists_eq_add_of_le h
  rw [Nat.add_sub_cancel_left, Nat.add_comm, ← nI_add, Int32.add_sub_cancel]
theorem nI_m8 (a : Nat) : 8 * nI a = nI (8 * a) := by
  show nI 8 * nI a = nI (8 * a)
  exact (Int32.ofNat_mul 8 a).symm
theorem s_O_number {r j : Nat} (hr : r < 2147483648) (hj : j < bo r + 2) : f_O_numberByteAt (nI r) (nI j) = some (nI (nb r j)) := by
  have b := bo_b r
  unfold f_O_numberByteAt nb
  by_cases c0 : j = 0
  · subst c0
    rw [if_pos (by decide), if_pos rfl]
    rfl
  have d0 : ¬ nI j = 0 := nI_ne (n := 0) (by omega) (by decide) c0
  rw [if_neg d0, if_neg c0, s_O_bytesOf hr, ob]
  by_cases c1 : j = 1
  · subst c1
    rw [if_pos (by decide), if_pos rfl, ob]
  have d1 : ¬ nI j = 1 := nI_ne (n := 1) (by omega) (by decide) c1
  rw [if_neg d1, if_neg c1, ob, nI_1, nI_sb (by omega), nI_m8, by_u (by omega) (by omega), by_255]
theorem s_O_byteAt {r s i : Nat} (hr : r < 2147483648) (hs : s < 2147483648) (hi : i < fl r s) : f_O_byteAt (nI r) (nI s) (nI i) = some (nI (fb r s i)) := by
  have b := bo_b r
  have b' := bo_b s
  have bl := fl_b r s
  unfold f_O_byteAt fb
  by_cases c0 : i = 0
  · subst c0
    rw [if_pos (by decide), if_pos rfl]
    rfl
  have d0 : ¬ nI i = 0 := nI_ne (n := 0) (by omega) (by decide) c0
  rw [if_neg d0, if_neg c0]
  by_cases c1 : i = 1
  · subst c1
    rw [if_pos (by decide), if_pos rfl, s_O_length hr hs, ob, show (2 : Int32) = nI 2 from rfl, nI_sb (by omega)]
    have : fl r s - 2 = 4 + bo r + bo s := by unfold fl; omega
    rw [this]
  have d1 : ¬ nI i = 1 := nI_ne (n := 1) (by omega) (by decide) c1
  rw [if_neg d1, if_neg c1, s_O_bytesOf hr]
  simp only [ob]
  rw [show (4 : Int32) = nI 4 from rfl, nI_add]
  by_cases c2 : i < 4 + bo r
  · rw [if_neg (nI_ge c2 (by omega)), if_pos c2, show (2 : Int32) = nI 2 from rfl, nI_sb (by omega), s_O_number hr (by omega)]
    simp only [ob]
  · rw [if_pos (nI_le (by omega) (by omega)), if_neg c2, nI_sb (by omega), s_O_number hs (by unfold fl at hi; omega)]
    simp only [ob]
/-- the reference's state with other form bytes -/
def fmM (t : sM) (c : Int32) (B : Nat → Int32) : sM := (t.1, t.2.1, t.2.2.1, t.2.2.2.1, t.2.2.2.2.1, t.2.2.2.2.2.1, t.2.2.2.2.2.2.1, t.2.2.2.2.2.2.2.1, t.2.2.2.2.2.2.2.2.1, t.2.2.2.2.2.2.2.2.2.1, t.2.2.2.2.2.2.2.2.2.2.1, c, B)
theorem s_layByte (t : sM) {c : Nat} (hc : c < 16) (B : Nat → Int32) (b : Int32) : f_M_layByte (fmM t (nI c) B) b = some (fmM t (nI (c + 1)) (upd B c b)) := by
  have h := nI_in hc (N := 16) (by decide)
  have e : f_M_layByte (fmM t (nI c) B) b = if nI c < 0 ∨ 16 ≤ Int32.toNatClampNeg (nI c) then none else (some (fmM t (nI c + 1) (upd B (Int32.toNatClampNeg (nI c)) b))) := rfl
  rw [e, if_neg h, nI_clamp (by omega), nI_1]
theorem upd_s (B : Nat → Int32) (c : Nat) (b : Int32) : upd B c b c = b := if_pos rfl
theorem upd_n (B : Nat → Int32) {c j : Nat} (b : Int32) (h : j ≠ c) : upd B c b j = B j := if_neg h
theorem ly_loop {r : Nat} (hr : r < 2147483648) (t : sM) : ∀ (m f c : Nat) (B : Nat → Int32), c + m ≤ 16 → m < f → m ≤ 4 → ∃ B' x, f_M_layNumber_20 (nI r) f (fmM t (nI c) B) (nI m + (-1)) = some (fmM t (nI (c + m)) B', x) ∧ (∀ j, j < c → B' j = B j) ∧ (∀ j, j < m → B' (c + j) = nI (r / 2 ^ (8 * (m - 1 - j)) % 256)) := by
  intro m
  induction m with
  | zero =>
    intro f c B _ hf _
    obtain ⟨f, rfl⟩ : ∃ f', f = f' + 1 := ⟨f - 1, by omega⟩
    exact ⟨B, nI 0 + (-1), by rw [f_M_layNumber_20, if_pos nI_m1]; rfl, fun j _ => rfl, fun j hj => absurd hj (by omega)⟩
  | succ m ih =>
    intro f c B hc hf hm
    obtain ⟨f, rfl⟩ : ∃ f', f = f' + 1 := ⟨f - 1, by omega⟩
    obtain ⟨B', x, h1, h2, h3⟩ := ih f (c + 1) (upd B c (nI (r / 2 ^ (8 * m) % 256))) (by omega) (by omega) (by omega)
    have h0 : ¬ nI m < 0 := nI_pos (by omega)
    refine ⟨B', x, ?_, ?_, ?_⟩
    · rw [f_M_layNumber_20, nI_dec, if_neg h0, nI_m8, by_s hr (by omega), by_255, s_layByte _ (by omega)]
      simp only [ob]
      rw [h1, show c + 1 + m = c + (m + 1) by omega]
    · intro j hj
      rw [h2 j (by omega), upd_n _ _ (by omega)]
    · intro j hj
      cases j with
      | zero =>
        rw [Nat.add_zero, h2 c (by omega), upd_s, show m + 1 - 1 - 0 = m by omega]
      | succ j =>
        rw [show c + (j + 1) = c + 1 + j by omega, h3 j (by omega), show m + 1 - 1 - (j + 1) = m - 1 - j by omega]
theorem s_layNumber {r : Nat} (hr : r < 2147483648) (t : sM) {c : Nat} (hc : c + bo r + 2 ≤ 16) (B : Nat → Int32) : ∃ B', f_M_layNumber (fmM t (nI c) B) (nI r) = some (fmM t (nI (c + 2 + bo r)) B') ∧ (∀ j, j < c → B' j = B j) ∧ (∀ j, j < bo r + 2 → B' (c + j) = nI (nb r j)) := by
  have b := bo_b r
  obtain ⟨B', x, h1, h2, h3⟩ := ly_loop hr t (bo r) 64 (c + 1 + 1) (upd (upd B c 2) (c + 1) (nI (bo r))) (by omega) (by omega) (by omega)
  refine ⟨B', ?_, ?_, ?_⟩
  · unfold f_M_layNumber
    rw [s_layByte _ (by omega), ob, s_M_bytesOf hr, ob, s_layByte _ (by omega), ob, ob]
    simp only [ob]
    rw [Int32.sub_eq_add_neg, h1]
    simp only [ob]
  · intro j hj
    rw [h2 j (by omega), upd_n _ _ (by omega), upd_n _ _ (by omega)]
  · intro j hj
    unfold nb
    by_cases c0 : j = 0
    · subst c0
      rw [if_pos rfl, Nat.add_zero, h2 c (by omega), upd_n _ _ (by omega), upd_s]
      rfl
    · rw [if_neg c0]
      by_cases c1 : j = 1
      · subst c1
        rw [if_pos rfl, h2 (c + 1) (by omega), upd_s]
      · rw [if_neg c1]
        obtain ⟨i, rfl⟩ : ∃ i, j = i + 2 := ⟨j - 2, by omega⟩
        rw [show c + (i + 2) = c + 1 + 1 + i by omega, h3 i (by omega), show bo r + 1 - (i + 2) = bo r - 1 - i by omega]
theorem s_layForm {r s : Nat} (hr : r < 2147483648) (hs : s < 2147483648) (t : sM) : ∃ B', f_M_layForm t (nI r) (nI s) = some (fmM t (nI (fl r s)) B') ∧ ∀ j, j < fl r s → B' j = nI (fb r s j) := by
  have b := bo_b r
  have b' := bo_b s
  obtain ⟨B1, h1, h2, h3⟩ := s_layNumber hr t (c := 2) (by omega) (upd (upd t.2.2.2.2.2.2.2.2.2.2.2.2 0 48) 1 (nI (4 + bo r + bo s)))
  obtain ⟨B2, k1, k2, k3⟩ := s_layNumber hs t (c := 2 + 2 + bo r) (by omega) B1
  have e0 : f_M_layByte (t.1, t.2.1, t.2.2.1, t.2.2.2.1, t.2.2.2.2.1, t.2.2.2.2.2.1, t.2.2.2.2.2.2.1, t.2.2.2.2.2.2.2.1, t.2.2.2.2.2.2.2.2.1, t.2.2.2.2.2.2.2.2.2.1, t.2.2.2.2.2.2.2.2.2.2.1, 0, t.2.2.2.2.2.2.2.2.2.2.2.2) 48 = some (fmM t (nI 1) (upd t.2.2.2.2.2.2.2.2.2.2.2.2 0 48)) := s_layByte t (c := 0) (by omega) _ 48
  refine ⟨B2, ?_, ?_⟩
  · unfold f_M_layForm
    rw [e0, ob, s_M_bytesOf hr, s_M_bytesOf hs, ob, ob, show (4 : Int32) = nI 4 from rfl, nI_add, nI_add, s_layByte _ (by omega), ob, h1, ob, k1, ob, show 2 + 2 + bo r + 2 + bo s = fl r s by unfold fl; omega]
  · intro j hj
    unfold fl at hj
    unfold fb
    by_cases c0 : j = 0
    · subst c0
      rw [if_pos rfl, k2 0 (by omega), h2 0 (by omega), upd_n _ _ (by omega), upd_s]
      rfl
    rw [if_neg c0]
    by_cases c1 : j = 1
    · subst c1
      rw [if_pos rfl, k2 1 (by omega), h2 1 (by omega), upd_s]
    rw [if_neg c1]
    by_cases c2 : j < 4 + bo r
    · rw [if_pos c2, k2 j (by omega)]
      have := h3 (j - 2) (by omega)
      rw [show 2 + (j - 2) = j by omega] at this
      exact this
    · rw [if_neg c2]
      have := k3 (j - (4 + bo r)) (by omega)
      rw [show 2 + 2 + bo r + (j - (4 + bo r)) = j by omega] at this
      exact this
theorem inv_fm {g : sK} {t : sM} (h : inv g t) (c : Int32) (B : Nat → Int32) : inv g (fmM t c B) := h
