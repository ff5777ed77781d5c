/-! The law's walk, a case a row, over what the answers are said to be (ag_..). -/
abbrev wL (A : Nat → Nat) (cc : Nat → ClassId) (B : Nat → Nat) (dd : Nat → ClassId) (u : sK) (o : Nat → Int64) (v : sM) : va_W := [(A 0, .inr (2, [.ref (A 1), .ref (A 2), .ref (A 3), .ref (A 8), .int u.2.2.1])), (A 1, .inl (cc 1, 6, .inr (.inl u.1))), (A 2, .inl (cc 2, 6, .inr (.inl u.2.1))), (A 3, .inr (0, [.ref (A 4), .ref (A 5), .ref (A 6), .ref (A 7), .int u.2.2.2.2.2.2.2.1])), (A 4, .inl (cc 4, 8, .inr (.inl u.2.2.2.1))), (A 5, .inl (cc 5, 8, .inr (.inl u.2.2.2.2.1))), (A 6, .inl (cc 6, 8, .inl u.2.2.2.2.2.1)), (A 7, .inl (cc 7, 8, .inl u.2.2.2.2.2.2.1)), (A 8, .inr (1, [.ref (A 9), .int u.2.2.2.2.2.2.2.2.2])), (A 9, .inl (cc 9, 20, .inl u.2.2.2.2.2.2.2.2.1)), (A 10, .inl (cc 10, 1, .inr (.inl o))), (B 0, .inr (3, [.int v.1, .ref (B 1), .ref (B 2), .int v.2.2.2.1, .int v.2.2.2.2.1, .ref (B 3), .ref (B 4), .ref (B 5), .ref (B 6), .int v.2.2.2.2.2.2.2.2.2.1, .ref (B 7), .int v.2.2.2.2.2.2.2.2.2.2.2.1, .ref (B 8)])), (B 1, .inl (dd 1, 6, .inr (.inl v.2.1))), (B 2, .inl (dd 2, 6, .inr (.inl v.2.2.1))), (B 3, .inl (dd 3, 8, .inr (.inl v.2.2.2.2.2.1))), (B 4, .inl (dd 4, 8, .inr (.inl v.2.2.2.2.2.2.1))), (B 5, .inl (dd 5, 8, .inl v.2.2.2.2.2.2.2.1)), (B 6, .inl (dd 6, 8, .inl v.2.2.2.2.2.2.2.2.1)), (B 7, .inl (dd 7, 20, .inl v.2.2.2.2.2.2.2.2.2.2.1)), (B 8, .inl (dd 8, 16, .inl v.2.2.2.2.2.2.2.2.2.2.2.2))]
abbrev kL (cc dd : Nat → ClassId) : List (ClassId × FieldType) := [(cc 1, .long), (cc 2, .long), (cc 4, .long), (cc 5, .long), (cc 6, .int), (cc 7, .int), (cc 9, .int), (cc 10, .long), (dd 1, .long), (dd 2, .long), (dd 3, .long), (dd 4, .long), (dd 5, .int), (dd 6, .int), (dd 7, .int), (dd 8, .int)]
/-- what stands through the law -/
def lc (p : Program) (l : Launch) (s : State) (m : MethodId) (meth : Method) (c : Code) (b L : Nat) (xs : Nat → Int32) (D : va_G) (cc dd : Nat → ClassId) (AA : Nat → Prop) : Prop :=
  p.tables.exec = Jvm.exec ∧ c.code = b_L_law ∧ c.maxLocals = 8 ∧ s.vm.findClass R_L = some m.cls ∧ (∀ w ∈ Cond.initialized "EvenCurveKeys" :: wa, w.before #[Value.ref b] s = true) ∧ va_X b L xs s s.heap ∧ b < s.heap.size ∧ ¬ AA b ∧ (∀ q : Nat, s.heap.size ≤ q → AA q) ∧ nw s ∧ nx s ∧ nc s ∧ zq AA s s.heap ∧ va_K D vwC (kL cc dd) s ∧ meth.locks = false ∧ l.stackTraces = false ∧ L < 2 ^ 31
theorem li_0 {j L : Nat} (h : j + 7 ≤ L) (hL : L < 2 ^ 31) : vp_in (nI j) L := vp_in_nI (by omega) hL
theorem li_1 {j L : Nat} (h : j + 7 ≤ L) (hL : L < 2 ^ 31) : vp_in (nI j + 1) L := by rw [show (1 : Int32) = nI 1 from rfl, nI_add]; exact vp_in_nI (by omega) hL
theorem li_2 {j L : Nat} (h : j + 7 ≤ L) (hL : L < 2 ^ 31) : vp_in (nI j + 2) L := by rw [show (2 : Int32) = nI 2 from rfl, nI_add]; exact vp_in_nI (by omega) hL
theorem li_3 {j L : Nat} (h : j + 7 ≤ L) (hL : L < 2 ^ 31) : vp_in (nI j + 3) L := by rw [show (3 : Int32) = nI 3 from rfl, nI_add]; exact vp_in_nI (by omega) hL
theorem li_4 {j L : Nat} (h : j + 7 ≤ L) (hL : L < 2 ^ 31) : vp_in (nI j + 4) L := by rw [show (4 : Int32) = nI 4 from rfl, nI_add]; exact vp_in_nI (by omega) hL
theorem li_5 {j L : Nat} (h : j + 7 ≤ L) (hL : L < 2 ^ 31) : vp_in (nI j + 5) L := by rw [show (5 : Int32) = nI 5 from rfl, nI_add]; exact vp_in_nI (by omega) hL
theorem li_6 {j L : Nat} (h : j + 7 ≤ L) (hL : L < 2 ^ 31) : vp_in (nI j + 6) L := by rw [show (6 : Int32) = nI 6 from rfl, nI_add]; exact vp_in_nI (by omega) hL
def ag_secret (I : sK → sM → Prop) : Prop := ∀ (g : sK) (o : Nat → Int64) (t : sM) (a0 : Int32) (a1 : Int32), I g t → ∃ k r g1 o1 t1, f_L_secret (g, o) a0 a1 = some (k, (g1, o1)) ∧ f_M_secret t a0 a1 = some (r, t1) ∧ t1.1 = k ∧ (k = 0 → o1 (Int32.toNatClampNeg 0) = r) ∧ I g1 t1
def ag_open (I : sK → sM → Prop) : Prop := ∀ (g : sK) (o : Nat → Int64) (t : sM) (a0 : Int32) (a1 : Int64), I g t → ∃ k g1 o1 t1, f_L_open (g, o) a0 a1 = some (k, (g1, o1)) ∧ f_M_open t a0 a1 = some t1 ∧ t1.1 = k ∧ I g1 t1
def ag_code (I : sK → sM → Prop) : Prop := ∀ (g : sK) (o : Nat → Int64) (t : sM) (a0 : Int32), I g t → ∃ k r g1 o1 t1, f_L_code (g, o) a0 = some (k, (g1, o1)) ∧ f_M_code t a0 = some (r, t1) ∧ t1.1 = k ∧ (k = 0 → o1 (Int32.toNatClampNeg 0) = r) ∧ I g1 t1
def ag_even (I : sK → sM → Prop) : Prop := ∀ (g : sK) (t : sM) (a0 : Int32), I g t → ∃ r g1 t1, f_K_even g a0 = some (r, g1) ∧ f_M_even t a0 = some (r, t1) ∧ I g1 t1
def ag_tweak (I : sK → sM → Prop) : Prop := ∀ (g : sK) (o : Nat → Int64) (t : sM) (a0 : Int32) (a1 : Int32) (a2 : Int32), I g t → ∃ k r g1 o1 t1, f_L_tweak (g, o) a0 a1 a2 = some (k, (g1, o1)) ∧ f_M_tweak t a0 a1 a2 = some (r, t1) ∧ t1.1 = k ∧ (k = 0 → o1 (Int32.toNatClampNeg 0) = r) ∧ I g1 t1
def ag_combine (I : sK → sM → Prop) : Prop := ∀ (g : sK) (o : Nat → Int64) (t : sM) (a0 : Int32) (a1 : Int32) (a2 : Int32), I g t → ∃ k r g1 o1 t1, f_L_combine (g, o) a0 a1 a2 = some (k, (g1, o1)) ∧ f_M_combine t a0 a1 a2 = some (r, t1) ∧ t1.1 = k ∧ (k = 0 → o1 (Int32.toNatClampNeg 0) = r) ∧ I g1 t1
def ag_linear (I : sK → sM → Prop) : Prop := ∀ (g : sK) (o : Nat → Int64) (t : sM) (a0 : Int32) (a1 : Int32) (a2 : Int32), I g t → ∃ k r g1 o1 t1, f_L_linear (g, o) a0 a1 a2 = some (k, (g1, o1)) ∧ f_M_linear t a0 a1 a2 = some (r, t1) ∧ t1.1 = k ∧ (k = 0 → o1 (Int32.toNatClampNeg 0) = r) ∧ I g1 t1
def ag_sign (I : sK → sM → Prop) : Prop := ∀ (g : sK) (o : Nat → Int64) (t : sM) (a0 : Int32) (a1 : Int64), I g t → ∃ k r g1 o1 t1, f_L_sign (g, o) a0 a1 = some (k, (g1, o1)) ∧ f_M_sign t a0 a1 = some (r, t1) ∧ t1.1 = k ∧ (k = 0 → o1 (Int32.toNatClampNeg 0) = r) ∧ I g1 t1
def ag_mark (I : sK → sM → Prop) : Prop := ∀ (g : sK) (t : sM), I g t → ∃ r g1 t1, f_K_mark g  = some (r, g1) ∧ f_M_mark t  = some (r, t1) ∧ I g1 t1
def ag_good (I : sK → sM → Prop) : Prop := ∀ (g : sK) (o : Nat → Int64) (t : sM) (a0 : Int32) (a1 : Int64) (a2 : Int32) (a3 : Int32), I g t → ∃ k r g1 o1 t1, f_L_good (g, o) a0 a1 a2 a3 = some (k, (g1, o1)) ∧ f_M_good t a0 a1 a2 a3 = some (r, t1) ∧ t1.1 = k ∧ (k = 0 → o1 (Int32.toNatClampNeg 0) = if r = 0 then 0 else 1) ∧ I g1 t1
def ag_recover (I : sK → sM → Prop) : Prop := ∀ (g : sK) (o : Nat → Int64) (t : sM) (a0 : Int32) (a1 : Int64) (a2 : Int32) (a3 : Int32) (a4 : Int32), I g t → ∃ k r g1 o1 t1, f_L_recover (g, o) a0 a1 a2 a3 a4 = some (k, (g1, o1)) ∧ f_M_recover t a0 a1 a2 a3 a4 = some (r, t1) ∧ t1.1 = k ∧ (k = 0 → o1 (Int32.toNatClampNeg 0) = r) ∧ I g1 t1
def ag_prove (I : sK → sM → Prop) : Prop := ∀ (g : sK) (o : Nat → Int64) (t : sM) (a0 : Int32) (a1 : Int64) (a2 : Int64), I g t → ∃ k r g1 o1 t1, f_L_prove (g, o) a0 a1 a2 = some (k, (g1, o1)) ∧ f_M_prove t a0 a1 a2 = some (r, t1) ∧ t1.1 = k ∧ (k = 0 → o1 (Int32.toNatClampNeg 0) = r) ∧ I g1 t1
def ag_holds (I : sK → sM → Prop) : Prop := ∀ (g : sK) (o : Nat → Int64) (t : sM) (a0 : Int32) (a1 : Int64) (a2 : Int32) (a3 : Int32), I g t → ∃ k r g1 o1 t1, f_L_holds (g, o) a0 a1 a2 a3 = some (k, (g1, o1)) ∧ f_M_holds t a0 a1 a2 a3 = some (r, t1) ∧ t1.1 = k ∧ (k = 0 → o1 (Int32.toNatClampNeg 0) = if r = 0 then 0 else 1) ∧ I g1 t1
def ag_bundle (I : sK → sM → Prop) : Prop := ∀ (g : sK) (o : Nat → Int64) (t : sM) (a0 : Int32) (a1 : Int64) (a2 : Int32) (a3 : Int32), I g t → ∃ k r g1 o1 t1, f_L_bundle (g, o) a0 a1 a2 a3 = some (k, (g1, o1)) ∧ f_M_bundle t a0 a1 a2 a3 = some (r, t1) ∧ t1.1 = k ∧ (k = 0 → o1 (Int32.toNatClampNeg 0) = Int32.toInt64 r) ∧ I g1 t1
def ag_right (I : sK → sM → Prop) : Prop := ∀ (g : sK) (t : sM) (a0 : Int64), I g t → ∃ r g1 t1, f_K_right g a0 = some (r, g1) ∧ f_M_right t a0 = some (r, t1) ∧ I g1 t1
def ag_agree (I : sK → sM → Prop) : Prop := ∀ (g : sK) (o : Nat → Int64) (t : sM) (a0 : Int32) (a1 : Int32), I g t → ∃ k r g1 o1 t1, f_L_agree (g, o) a0 a1 = some (k, (g1, o1)) ∧ f_M_agree t a0 a1 = some (r, t1) ∧ t1.1 = k ∧ (k = 0 → o1 (Int32.toNatClampNeg 0) = r) ∧ I g1 t1
def ag_written (I : sK → sM → Prop) : Prop := ∀ (g : sK) (o : Nat → Int64) (t : sM) (a0 : Int32) (a1 : Int32) (a2 : Int32), I g t → ∃ k r g1 o1 t1, f_L_written (g, o) a0 a1 a2 = some (k, (g1, o1)) ∧ f_M_written t a0 a1 a2 = some (r, t1) ∧ t1.1 = k ∧ (k = 0 → o1 (Int32.toNatClampNeg 0) = Int32.toInt64 r) ∧ I g1 t1
def ag_type (I : sK → sM → Prop) : Prop := ∀ (g : sK) (o : Nat → Int64) (t : sM) (a0 : Int32), I g t → ∃ k r g1 o1 t1, f_L_type (g, o) a0 = some (k, (g1, o1)) ∧ f_M_type t a0 = some (r, t1) ∧ t1.1 = k ∧ (k = 0 → o1 (Int32.toNatClampNeg 0) = Int32.toInt64 r) ∧ I g1 t1
def ag_read (I : sK → sM → Prop) : Prop := ∀ (g : sK) (t : sM), I g t → ∃ r g1 t1, f_K_read g  = some (r, g1) ∧ f_M_read t  = some (r, t1) ∧ I g1 t1
set_option maxHeartbeats 4000000 in
set_option maxRecDepth 100000 in
theorem lw_secret {p : Program} {l : Launch} {e : Env} {s : State} {m : MethodId} {below : List Frame} {meth : Method} {c : Code} {b L : Nat} {xs : Nat → Int32} {D : va_G} {A : Nat → Nat} {cc : Nat → ClassId} {B : Nat → Nat} {dd : Nat → ClassId} {AA : Nat → Prop} {Q : State → Prop} (C0 : lc p l s m meth c b L xs D cc dd AA) {I : sK → sM → Prop} (hAG : ag_secret I) {g : sK} {o : Nat → Int64} {t : sM} (hI : I g t) {H : Heap} {locs : List Loc} (hP : va_P D vwC (wL A cc B dd g o t) H) (hD : va_D AA (wL A cc B dd g o t)) (hS : va_S AA s.heap H locs) {ls : Array Slot} {j : Nat} (hj : j + 7 ≤ L)
    (hl : lv_has ls 8 [(0, .ref b), (1, .ref (A 0)), (2, .ref (B 0)), (3, .ref (A 10)), (4, .int (nI j))]) {n0 k0 : Nat} (hn : n0 + 1 ≤ 1052) (hk : k0 + 6 ≤ 8410)
    (kont : ∀ (g : sK) (o : Nat → Int64) (t : sM) (H : Heap) (locs : List Loc) (ls : Array Slot), I g t → va_P D vwC (wL A cc B dd g o t) H → va_D AA (wL A cc B dd g o t) → va_S AA s.heap H locs → lv_has ls 8 [(0, .ref b), (1, .ref (A 0)), (2, .ref (B 0)), (3, .ref (A 10)), (4, .int (nI j))] → W p l e room_1 s m #[Value.ref b] below meth c H locs (n0 + 1) (k0 + 6) Q (F0 m 1665 ls [])) :
    W p l e room_1 s m #[Value.ref b] below meth c H locs n0 k0 Q (F0 m 132 ls []) := by
  obtain ⟨hx, hb, hml, hown, hts, hXs, hbl, hbA, hA, hN, hX, hC, hZ, hK, hlocks, hl0, hL⟩ := C0
  have hw : ∀ w ∈ wa, w.before _ s = true := fun w h => hts w (List.mem_cons_of_mem _ h)
  have hn0 : n0 + 0 ≤ 1052 := by omega
  have hk0 : k0 + 0 ≤ 8410 := by omega
  refine lv_aload_n hx hb d_L_law_132 rfl (lv_at hl 1 rfl) ?_
  refine lv_aload_n hx hb d_L_law_133 rfl (lv_at hl 0 rfl) ?_
  refine lv_iload hx hb d_L_law_134 (lv_at hl 4 rfl) ?_
  refine lv_iconst (v := 1) hx hb d_L_law_136 (by decide) ?_
  refine lv_iadd hx hb d_L_law_137 ?_
  refine va_sld hx hb hXs hbl hbA hS (li_1 hj hL) d_L_law_138 ?_
  refine lv_aload_n hx hb d_L_law_139 rfl (lv_at hl 0 rfl) ?_
  refine lv_iload hx hb d_L_law_140 (lv_at hl 4 rfl) ?_
  refine lv_iconst (v := 2) hx hb d_L_law_142 (by decide) ?_
  refine lv_iadd hx hb d_L_law_143 ?_
  refine va_sld hx hb hXs hbl hbA hS (li_2 hj hL) d_L_law_144 ?_
  refine lv_aload_n hx hb d_L_law_145 rfl (lv_at hl 3 rfl) ?_
  obtain ⟨k1, r1, g1, o1, t1, hf1, hf2, hth, hou, hI⟩ := hAG g o t (xs (Int32.toNatClampNeg (nI j + 1))) (xs (Int32.toNatClampNeg (nI j + 2))) hI
  have hPc := hP.sub (ws' := wX A cc (g, o)) [0, 1, 2, 3, 4, 5, 6, 7, 8, 9, 10] rfl
  have hDc := hD.sub (ws' := wX A cc (g, o)) [0, 1, 2, 3, 4, 5, 6, 7, 8, 9, 10] (by decide) rfl
  have hKc := hK.sub (tys' := kX cc) [0, 1, 2, 3, 4, 5, 6, 7] rfl
  have hFc := va_free (wc := wX A cc (g, o)) hD hS hA [0, 1, 2, 3, 4, 5, 6, 7, 8, 9, 10] rfl
  refine va_calli (vx_runSW (As := [.ref (A 0), .int (xs (Int32.toNatClampNeg (nI j + 1))), .int (xs (Int32.toNatClampNeg (nI j + 2))), .ref (A 10)]) (rest := []) ⟨hx, hb, hml, hown, hts⟩ (k_L_secret l hl0 D A cc (g, o) (xs (Int32.toNatClampNeg (nI j + 1))) (xs (Int32.toNatClampNeg (nI j + 2))) _ (k1, (g1, o1)) hf1) (vx_cwSW 4 hts (ga_S ww_216 ww_217 ww_0 ww_218) rfl rfl rfl (by decide +kernel) ⟨by decide, by decide⟩) (pwl_pre hPc hKc hDc hN hX hZ hC hS hFc) rfl rfl hl.1 rfl (lv_room (Nat.le_of_ble_eq_true rfl)) d_L_law_146 ⟨hn, hk⟩) hS (fun q _ h => hFc q h) hFc (fun r9 u9 t9 H locs ht hvm hp hB hz1 hk1 hS => ?_)
  obtain ⟨rfl, rfl⟩ := Prod.mk.inj hp.symm
  obtain ⟨hP1, hK1, hD1⟩ := hB
  rw [ht] at hP1
  obtain ⟨hP, hD⟩ := va_join (wr := wM B dd t) (w1 := wX A cc (g1, o1)) hP hD [0, 1, 2, 3, 4, 5, 6, 7, 8, 9, 10] [11, 12, 13, 14, 15, 16, 17, 18, 19] rfl rfl (by decide) (by decide) hk1 hFc hP1 hD1
  have hP := hP.sub (ws' := wL A cc B dd g1 o1 t) [9, 10, 11, 12, 13, 14, 15, 16, 17, 18, 19, 0, 1, 2, 3, 4, 5, 6, 7, 8] rfl
  have hD := hD.sub (ws' := wL A cc B dd g1 o1 t) [9, 10, 11, 12, 13, 14, 15, 16, 17, 18, 19, 0, 1, 2, 3, 4, 5, 6, 7, 8] (by decide) rfl
  refine lv_istore hx hb d_L_law_149 hl (by decide) (lv' := [(5, .int k1), (0, .ref b), (1, .ref (A 0)), (2, .ref (B 0)), (3, .ref (A 10)), (4, .int (nI j))]) rfl (fun ls hl => ?_)
  refine lv_aload_n hx hb d_L_law_151 rfl (lv_at hl 3 rfl) ?_
  refine lv_aload_n hx hb d_L_law_152 rfl (lv_at hl 1 rfl) ?_
  refine lv_iload hx hb d_L_law_153 (lv_at hl 5 rfl) ?_
  refine lv_iconst (v := 1) hx hb d_L_law_155 (by decide) ?_
  refine lv_iadd hx hb d_L_law_156 ?_
  refine va_sld hx hb hXs hbl hbA hS (li_1 hj hL) d_L_law_157 ?_
  refine lv_aload_n hx hb d_L_law_158 rfl (lv_at hl 1 rfl) ?_
  refine lv_iload hx hb d_L_law_159 (lv_at hl 5 rfl) ?_
  refine lv_iconst (v := 2) hx hb d_L_law_161 (by decide) ?_
  refine lv_iadd hx hb d_L_law_162 ?_
  refine va_sld hx hb hXs hbl hbA hS (li_2 hj hL) d_L_law_163 ?_
  have hPc := hP.sub (ws' := wM B dd t) [11, 12, 13, 14, 15, 16, 17, 18, 19] rfl
  have hDc := hD.sub (ws' := wM B dd t) [11, 12, 13, 14, 15, 16, 17, 18, 19] (by decide) rfl
  have hKc := hK.sub (tys' := kM dd) [8, 9, 10, 11, 12, 13, 14, 15] rfl
  have hFc := va_free (wc := wM B dd t) hD hS hA [11, 12, 13, 14, 15, 16, 17, 18, 19] rfl
  refine va_calll (va_runV (As := [.int (xs (Int32.toNatClampNeg (nI j + 1))), .int (xs (Int32.toNatClampNeg (nI j + 2)))]) (rest := []) ⟨hx, hb, hml, hown, hts⟩ (k_M_secret l D B dd t (xs (Int32.toNatClampNeg (nI j + 1))) (xs (Int32.toNatClampNeg (nI j + 2))) _ (r1, t1) hf2) (cwV 2 hts (ga_V ww_578 ww_579 ww_580 ww_4 ww_581) rfl rfl rfl (by decide +kernel) ⟨by decide, by decide⟩) (pw_pre (q0 := 0) (ci := 3) hPc hKc hDc hN rfl rfl) rfl rfl hl.1 rfl (lv_room (Nat.le_of_ble_eq_true rfl)) d_L_law_164 ⟨hn, hk⟩) hS (fun q _ h => hFc q h) hFc (fun r9 u9 t9 H locs ht hvm hp hB hz1 hk1 hS => ?_)
  obtain ⟨rfl, rfl⟩ := Prod.mk.inj hp.symm
  obtain ⟨hP1, hK1, hD1⟩ := hB
  rw [ht] at hP1
  obtain ⟨hP, hD⟩ := va_join (wr := wX A cc (g1, o1)) (w1 := wM B dd t1) hP hD [11, 12, 13, 14, 15, 16, 17, 18, 19] [0, 1, 2, 3, 4, 5, 6, 7, 8, 9, 10] rfl rfl (by decide) (by decide) hk1 hFc hP1 hD1
  have hP : va_P D vwC (wL A cc B dd g1 o1 t1) H := hP
  have hD : va_D AA (wL A cc B dd g1 o1 t1) := hD
  refine lv_lstore hx hb d_L_law_167 hl (by decide) (lv' := [(6, .long r1), (5, .int k1), (0, .ref b), (1, .ref (A 0)), (2, .ref (B 0)), (3, .ref (A 10)), (4, .int (nI j))]) rfl (fun ls hl => ?_)
  refine lv_aload_n hx hb d_L_law_169 rfl (lv_at hl 4 rfl) ?_
  have hPc := hP.sub (ws' := wM B dd t1) [11, 12, 13, 14, 15, 16, 17, 18, 19] rfl
  have hDc := hD.sub (ws' := wM B dd t1) [11, 12, 13, 14, 15, 16, 17, 18, 19] (by decide) rfl
  have hKc := hK.sub (tys' := kM dd) [8, 9, 10, 11, 12, 13, 14, 15] rfl
  have hFc := va_free (wc := wM B dd t1) hD hS hA [11, 12, 13, 14, 15, 16, 17, 18, 19] rfl
  refine va_calli (va_runV (As := []) (rest := []) ⟨hx, hb, hml, hown, hts⟩ (k_M_thrown l D B dd t1 _ (t1.1, t1) rfl) (cwV 0 hts (ga_V ww_574 ww_575 ww_576 ww_4 ww_577) rfl rfl rfl (by decide +kernel) ⟨by decide, by decide⟩) (pw_pre (q0 := 0) (ci := 3) hPc hKc hDc hN rfl rfl) rfl rfl hl.1 rfl (lv_room (Nat.le_of_ble_eq_true rfl)) d_L_law_170 ⟨hn, hk⟩) hS (fun q _ h => hFc q h) hFc (fun r9 u9 t9 H locs ht hvm hp hB hz1 hk1 hS => ?_)
  obtain ⟨hp1, hp2⟩ := Prod.mk.inj hp
  subst hp1
  subst hp2
  obtain ⟨hP1, hK1, hD1⟩ := hB
  rw [ht] at hP1
  obtain ⟨hP, hD⟩ := va_join (wr := wX A cc (g1, o1)) (w1 := wM B dd t1) hP hD [11, 12, 13, 14, 15, 16, 17, 18, 19] [0, 1, 2, 3, 4, 5, 6, 7, 8, 9, 10] rfl rfl (by decide) (by decide) hk1 hFc hP1 hD1
  have hP : va_P D vwC (wL A cc B dd g1 o1 t1) H := hP
  have hD : va_D AA (wL A cc B dd g1 o1 t1) := hD
  refine lv_iload hx hb d_L_law_173 (lv_at hl 1 rfl) ?_
  refine lv_icmp_eq hx hb d_L_law_175 (tgt := 180) (by decide) (fun h9 => ?_) (fun h9 => absurd hth h9)
  refine lv_iload hx hb d_L_law_180 (lv_at hl 1 rfl) ?_
  have w1 : W p l e room_1 s m #[Value.ref b] below meth c H locs (n0 + 1) (k0 + 6) Q (F0 m 196 ls []) := by
    refine lv_goto hx hb d_L_law_196 (tgt := 1665) (by decide) ?_
    exact kont g1 o1 t1 _ _ ls hI hP hD hS (lv_sub hl [2, 3, 4, 5, 6] rfl)
  refine lv_if_ne hx hb d_L_law_182 (tgt := 196) (by decide) (fun h9 => w1) (fun h9 => ?_)
  refine lv_aload_n hx hb d_L_law_185 rfl (lv_at hl 5 rfl) ?_
  refine lv_iconst (v := 0) hx hb d_L_law_186 (by decide) ?_
  refine va_lald hx hb hK hP 10 7 rfl rfl (show vp_in 0 1 by unfold vp_in; decide) d_L_law_187 ?_
  refine lv_lload hx hb d_L_law_188 (lv_at hl 0 rfl) ?_
  refine W.lcmp hx hb d_L_law_190 ?_
  exact lv_if_eq hx hb d_L_law_191 (tgt := 196) (by decide) (fun _ => w1) (fun h8 => absurd ((lg_cmp_eq _ _).mpr (hou h9)) h8)
set_option maxHeartbeats 4000000 in
set_option maxRecDepth 100000 in
theorem lw_open {p : Program} {l : Launch} {e : Env} {s : State} {m : MethodId} {below : List Frame} {meth : Method} {c : Code} {b L : Nat} {xs : Nat → Int32} {D : va_G} {A : Nat → Nat} {cc : Nat → ClassId} {B : Nat → Nat} {dd : Nat → ClassId} {AA : Nat → Prop} {Q : State → Prop} (C0 : lc p l s m meth c b L xs D cc dd AA) {I : sK → sM → Prop} (hAG : ag_open I) {g : sK} {o : Nat → Int64} {t : sM} (hI : I g t) {H : Heap} {locs : List Loc} (hP : va_P D vwC (wL A cc B dd g o t) H) (hD : va_D AA (wL A cc B dd g o t)) (hS : va_S AA s.heap H locs) {ls : Array Slot} {j : Nat} (hj : j + 7 ≤ L)
    (hl : lv_has ls 8 [(0, .ref b), (1, .ref (A 0)), (2, .ref (B 0)), (3, .ref (A 10)), (4, .int (nI j))]) {n0 k0 : Nat} (hn : n0 + 1 ≤ 1052) (hk : k0 + 6 ≤ 8410)
    (kont : ∀ (g : sK) (o : Nat → Int64) (t : sM) (H : Heap) (locs : List Loc) (ls : Array Slot), I g t → va_P D vwC (wL A cc B dd g o t) H → va_D AA (wL A cc B dd g o t) → va_S AA s.heap H locs → lv_has ls 8 [(0, .ref b), (1, .ref (A 0)), (2, .ref (B 0)), (3, .ref (A 10)), (4, .int (nI j))] → W p l e room_1 s m #[Value.ref b] below meth c H locs (n0 + 1) (k0 + 6) Q (F0 m 1665 ls [])) :
    W p l e room_1 s m #[Value.ref b] below meth c H locs n0 k0 Q (F0 m 199 ls []) := by
  obtain ⟨hx, hb, hml, hown, hts, hXs, hbl, hbA, hA, hN, hX, hC, hZ, hK, hlocks, hl0, hL⟩ := C0
  have hw : ∀ w ∈ wa, w.before _ s = true := fun w h => hts w (List.mem_cons_of_mem _ h)
  have hn0 : n0 + 0 ≤ 1052 := by omega
  have hk0 : k0 + 0 ≤ 8410 := by omega
  refine lv_aload_n hx hb d_L_law_199 rfl (lv_at hl 1 rfl) ?_
  refine lv_aload_n hx hb d_L_law_200 rfl (lv_at hl 0 rfl) ?_
  refine lv_iload hx hb d_L_law_201 (lv_at hl 4 rfl) ?_
  refine lv_iconst (v := 1) hx hb d_L_law_203 (by decide) ?_
  refine lv_iadd hx hb d_L_law_204 ?_
  refine va_sld hx hb hXs hbl hbA hS (li_1 hj hL) d_L_law_205 ?_
  refine lv_aload_n hx hb d_L_law_206 rfl (lv_at hl 0 rfl) ?_
  refine lv_iload hx hb d_L_law_207 (lv_at hl 4 rfl) ?_
  refine lv_iconst (v := 2) hx hb d_L_law_209 (by decide) ?_
  refine lv_iadd hx hb d_L_law_210 ?_
  refine va_sld hx hb hXs hbl hbA hS (li_2 hj hL) d_L_law_211 ?_
  refine lv_i2l (v := Int32.toInt64 (xs (Int32.toNatClampNeg (nI j + 2)))) hx hb d_L_law_212 rfl ?_
  refine lv_bipush (v := 32) hx hb d_L_law_213 (by decide) ?_
  refine lv_lshl (v := (Int32.toInt64 (xs (Int32.toNatClampNeg (nI j + 2)))) <<< ((Int32.toInt64 32) &&& 63)) hx hb d_L_law_215 rfl ?_
  refine lv_aload_n hx hb d_L_law_216 rfl (lv_at hl 0 rfl) ?_
  refine lv_iload hx hb d_L_law_217 (lv_at hl 4 rfl) ?_
  refine lv_iconst (v := 3) hx hb d_L_law_219 (by decide) ?_
  refine lv_iadd hx hb d_L_law_220 ?_
  refine va_sld hx hb hXs hbl hbA hS (li_3 hj hL) d_L_law_221 ?_
  refine lv_i2l (v := Int32.toInt64 (xs (Int32.toNatClampNeg (nI j + 3)))) hx hb d_L_law_222 rfl ?_
  refine lv_ldc2 (v := 4294967295) hx hb hown (hw _ ww_767) d_L_law_223 ?_
  refine lv_land hx hb d_L_law_226 ?_
  refine lv_lor hx hb d_L_law_227 ?_
  obtain ⟨k1, g1, o1, t1, hf1, hf2, hth, hI⟩ := hAG g o t (xs (Int32.toNatClampNeg (nI j + 1))) (((Int32.toInt64 (xs (Int32.toNatClampNeg (nI j + 2)))) <<< ((Int32.toInt64 32) &&& 63)) ||| ((Int32.toInt64 (xs (Int32.toNatClampNeg (nI j + 3)))) &&& 4294967295)) hI
  have hPc := hP.sub (ws' := wX A cc (g, o)) [0, 1, 2, 3, 4, 5, 6, 7, 8, 9, 10] rfl
  have hDc := hD.sub (ws' := wX A cc (g, o)) [0, 1, 2, 3, 4, 5, 6, 7, 8, 9, 10] (by decide) rfl
  have hKc := hK.sub (tys' := kX cc) [0, 1, 2, 3, 4, 5, 6, 7] rfl
  have hFc := va_free (wc := wX A cc (g, o)) hD hS hA [0, 1, 2, 3, 4, 5, 6, 7, 8, 9, 10] rfl
  refine va_calli (vx_runSW (As := [.ref (A 0), .int (xs (Int32.toNatClampNeg (nI j + 1))), .long (((Int32.toInt64 (xs (Int32.toNatClampNeg (nI j + 2)))) <<< ((Int32.toInt64 32) &&& 63)) ||| ((Int32.toInt64 (xs (Int32.toNatClampNeg (nI j + 3)))) &&& 4294967295))]) (rest := []) ⟨hx, hb, hml, hown, hts⟩ (k_L_open l hl0 D A cc (g, o) (xs (Int32.toNatClampNeg (nI j + 1))) (((Int32.toInt64 (xs (Int32.toNatClampNeg (nI j + 2)))) <<< ((Int32.toInt64 32) &&& 63)) ||| ((Int32.toInt64 (xs (Int32.toNatClampNeg (nI j + 3)))) &&& 4294967295)) _ (k1, (g1, o1)) hf1) (vx_cwSW 3 hts (ga_S ww_320 ww_321 ww_0 ww_322) rfl rfl rfl (by decide +kernel) ⟨by decide, by decide⟩) (pwl_pre hPc hKc hDc hN hX hZ hC hS hFc) rfl rfl hl.1 rfl (lv_room (Nat.le_of_ble_eq_true rfl)) d_L_law_228 ⟨hn, hk⟩) hS (fun q _ h => hFc q h) hFc (fun r9 u9 t9 H locs ht hvm hp hB hz1 hk1 hS => ?_)
  obtain ⟨rfl, rfl⟩ := Prod.mk.inj hp.symm
  obtain ⟨hP1, hK1, hD1⟩ := hB
  rw [ht] at hP1
  obtain ⟨hP, hD⟩ := va_join (wr := wM B dd t) (w1 := wX A cc (g1, o1)) hP hD [0, 1, 2, 3, 4, 5, 6, 7, 8, 9, 10] [11, 12, 13, 14, 15, 16, 17, 18, 19] rfl rfl (by decide) (by decide) hk1 hFc hP1 hD1
  have hP := hP.sub (ws' := wL A cc B dd g1 o1 t) [9, 10, 11, 12, 13, 14, 15, 16, 17, 18, 19, 0, 1, 2, 3, 4, 5, 6, 7, 8] rfl
  have hD := hD.sub (ws' := wL A cc B dd g1 o1 t) [9, 10, 11, 12, 13, 14, 15, 16, 17, 18, 19, 0, 1, 2, 3, 4, 5, 6, 7, 8] (by decide) rfl
  refine lv_istore hx hb d_L_law_231 hl (by decide) (lv' := [(5, .int k1), (0, .ref b), (1, .ref (A 0)), (2, .ref (B 0)), (3, .ref (A 10)), (4, .int (nI j))]) rfl (fun ls hl => ?_)
  refine lv_aload_n hx hb d_L_law_233 rfl (lv_at hl 3 rfl) ?_
  refine lv_aload_n hx hb d_L_law_234 rfl (lv_at hl 1 rfl) ?_
  refine lv_iload hx hb d_L_law_235 (lv_at hl 5 rfl) ?_
  refine lv_iconst (v := 1) hx hb d_L_law_237 (by decide) ?_
  refine lv_iadd hx hb d_L_law_238 ?_
  refine va_sld hx hb hXs hbl hbA hS (li_1 hj hL) d_L_law_239 ?_
  refine lv_aload_n hx hb d_L_law_240 rfl (lv_at hl 1 rfl) ?_
  refine lv_iload hx hb d_L_law_241 (lv_at hl 5 rfl) ?_
  refine lv_iconst (v := 2) hx hb d_L_law_243 (by decide) ?_
  refine lv_iadd hx hb d_L_law_244 ?_
  refine va_sld hx hb hXs hbl hbA hS (li_2 hj hL) d_L_law_245 ?_
  refine lv_i2l (v := Int32.toInt64 (xs (Int32.toNatClampNeg (nI j + 2)))) hx hb d_L_law_246 rfl ?_
  refine lv_bipush (v := 32) hx hb d_L_law_247 (by decide) ?_
  refine lv_lshl (v := (Int32.toInt64 (xs (Int32.toNatClampNeg (nI j + 2)))) <<< ((Int32.toInt64 32) &&& 63)) hx hb d_L_law_249 rfl ?_
  refine lv_aload_n hx hb d_L_law_250 rfl (lv_at hl 1 rfl) ?_
  refine lv_iload hx hb d_L_law_251 (lv_at hl 5 rfl) ?_
  refine lv_iconst (v := 3) hx hb d_L_law_253 (by decide) ?_
  refine lv_iadd hx hb d_L_law_254 ?_
  refine va_sld hx hb hXs hbl hbA hS (li_3 hj hL) d_L_law_255 ?_
  refine lv_i2l (v := Int32.toInt64 (xs (Int32.toNatClampNeg (nI j + 3)))) hx hb d_L_law_256 rfl ?_
  refine lv_ldc2 (v := 4294967295) hx hb hown (hw _ ww_767) d_L_law_257 ?_
  refine lv_land hx hb d_L_law_260 ?_
  refine lv_lor hx hb d_L_law_261 ?_
  have hPc := hP.sub (ws' := wM B dd t) [11, 12, 13, 14, 15, 16, 17, 18, 19] rfl
  have hDc := hD.sub (ws' := wM B dd t) [11, 12, 13, 14, 15, 16, 17, 18, 19] (by decide) rfl
  have hKc := hK.sub (tys' := kM dd) [8, 9, 10, 11, 12, 13, 14, 15] rfl
  have hFc := va_free (wc := wM B dd t) hD hS hA [11, 12, 13, 14, 15, 16, 17, 18, 19] rfl
  refine va_callv (va_runV (As := [.int (xs (Int32.toNatClampNeg (nI j + 1))), .long (((Int32.toInt64 (xs (Int32.toNatClampNeg (nI j + 2)))) <<< ((Int32.toInt64 32) &&& 63)) ||| ((Int32.toInt64 (xs (Int32.toNatClampNeg (nI j + 3)))) &&& 4294967295))]) (rest := []) ⟨hx, hb, hml, hown, hts⟩ (k_M_open l D B dd t (xs (Int32.toNatClampNeg (nI j + 1))) (((Int32.toInt64 (xs (Int32.toNatClampNeg (nI j + 2)))) <<< ((Int32.toInt64 32) &&& 63)) ||| ((Int32.toInt64 (xs (Int32.toNatClampNeg (nI j + 3)))) &&& 4294967295)) _ t1 hf2) (cwV 2 hts (ga_V ww_619 ww_620 ww_621 ww_4 ww_622) rfl rfl rfl (by decide +kernel) ⟨by decide, by decide⟩) (pw_pre (q0 := 0) (ci := 3) hPc hKc hDc hN rfl rfl) rfl rfl hl.1 rfl (lv_room (Nat.le_of_ble_eq_true rfl)) d_L_law_262 ⟨hn, hk⟩) hS (fun q _ h => hFc q h) hFc (fun u9 t9 H locs ht hvm hp hB hz1 hk1 hS => ?_)
  obtain rfl : t1 = u9 := hp.symm
  obtain ⟨hP1, hK1, hD1⟩ := hB
  rw [ht] at hP1
  obtain ⟨hP, hD⟩ := va_join (wr := wX A cc (g1, o1)) (w1 := wM B dd t1) hP hD [11, 12, 13, 14, 15, 16, 17, 18, 19] [0, 1, 2, 3, 4, 5, 6, 7, 8, 9, 10] rfl rfl (by decide) (by decide) hk1 hFc hP1 hD1
  have hP : va_P D vwC (wL A cc B dd g1 o1 t1) H := hP
  have hD : va_D AA (wL A cc B dd g1 o1 t1) := hD
  refine lv_aload_n hx hb d_L_law_265 rfl (lv_at hl 3 rfl) ?_
  have hPc := hP.sub (ws' := wM B dd t1) [11, 12, 13, 14, 15, 16, 17, 18, 19] rfl
  have hDc := hD.sub (ws' := wM B dd t1) [11, 12, 13, 14, 15, 16, 17, 18, 19] (by decide) rfl
  have hKc := hK.sub (tys' := kM dd) [8, 9, 10, 11, 12, 13, 14, 15] rfl
  have hFc := va_free (wc := wM B dd t1) hD hS hA [11, 12, 13, 14, 15, 16, 17, 18, 19] rfl
  refine va_calli (va_runV (As := []) (rest := []) ⟨hx, hb, hml, hown, hts⟩ (k_M_thrown l D B dd t1 _ (t1.1, t1) rfl) (cwV 0 hts (ga_V ww_574 ww_575 ww_576 ww_4 ww_577) rfl rfl rfl (by decide +kernel) ⟨by decide, by decide⟩) (pw_pre (q0 := 0) (ci := 3) hPc hKc hDc hN rfl rfl) rfl rfl hl.1 rfl (lv_room (Nat.le_of_ble_eq_true rfl)) d_L_law_266 ⟨hn, hk⟩) hS (fun q _ h => hFc q h) hFc (fun r9 u9 t9 H locs ht hvm hp hB hz1 hk1 hS => ?_)
  obtain ⟨hp1, hp2⟩ := Prod.mk.inj hp
  subst hp1
  subst hp2
  obtain ⟨hP1, hK1, hD1⟩ := hB
  rw [ht] at hP1
  obtain ⟨hP, hD⟩ := va_join (wr := wX A cc (g1, o1)) (w1 := wM B dd t1) hP hD [11, 12, 13, 14, 15, 16, 17, 18, 19] [0, 1, 2, 3, 4, 5, 6, 7, 8, 9, 10] rfl rfl (by decide) (by decide) hk1 hFc hP1 hD1
  have hP : va_P D vwC (wL A cc B dd g1 o1 t1) H := hP
  have hD : va_D AA (wL A cc B dd g1 o1 t1) := hD
  refine lv_iload hx hb d_L_law_269 (lv_at hl 0 rfl) ?_
  refine lv_icmp_eq hx hb d_L_law_271 (tgt := 276) (by decide) (fun h9 => ?_) (fun h9 => absurd hth h9)
  refine lv_goto hx hb d_L_law_276 (tgt := 1665) (by decide) ?_
  exact kont g1 o1 t1 _ _ ls hI hP hD hS (lv_sub hl [1, 2, 3, 4, 5] rfl)
set_option maxHeartbeats 4000000 in
set_option maxRecDepth 100000 in
theorem lw_code {p : Program} {l : Launch} {e : Env} {s : State} {m : MethodId} {below : List Frame} {meth : Method} {c : Code} {b L : Nat} {xs : Nat → Int32} {D : va_G} {A : Nat → Nat} {cc : Nat → ClassId} {B : Nat → Nat} {dd : Nat → ClassId} {AA : Nat → Prop} {Q : State → Prop} (C0 : lc p l s m meth c b L xs D cc dd AA) {I : sK → sM → Prop} (hAG : ag_code I) {g : sK} {o : Nat → Int64} {t : sM} (hI : I g t) {H : Heap} {locs : List Loc} (hP : va_P D vwC (wL A cc B dd g o t) H) (hD : va_D AA (wL A cc B dd g o t)) (hS : va_S AA s.heap H locs) {ls : Array Slot} {j : Nat} (hj : j + 7 ≤ L)
    (hl : lv_has ls 8 [(0, .ref b), (1, .ref (A 0)), (2, .ref (B 0)), (3, .ref (A 10)), (4, .int (nI j))]) {n0 k0 : Nat} (hn : n0 + 1 ≤ 1052) (hk : k0 + 6 ≤ 8410)
    (kont : ∀ (g : sK) (o : Nat → Int64) (t : sM) (H : Heap) (locs : List Loc) (ls : Array Slot), I g t → va_P D vwC (wL A cc B dd g o t) H → va_D AA (wL A cc B dd g o t) → va_S AA s.heap H locs → lv_has ls 8 [(0, .ref b), (1, .ref (A 0)), (2, .ref (B 0)), (3, .ref (A 10)), (4, .int (nI j))] → W p l e room_1 s m #[Value.ref b] below meth c H locs (n0 + 1) (k0 + 6) Q (F0 m 1665 ls [])) :
    W p l e room_1 s m #[Value.ref b] below meth c H locs n0 k0 Q (F0 m 279 ls []) := by
  obtain ⟨hx, hb, hml, hown, hts, hXs, hbl, hbA, hA, hN, hX, hC, hZ, hK, hlocks, hl0, hL⟩ := C0
  have hw : ∀ w ∈ wa, w.before _ s = true := fun w h => hts w (List.mem_cons_of_mem _ h)
  have hn0 : n0 + 0 ≤ 1052 := by omega
  have hk0 : k0 + 0 ≤ 8410 := by omega
  refine lv_aload_n hx hb d_L_law_279 rfl (lv_at hl 1 rfl) ?_
  refine lv_aload_n hx hb d_L_law_280 rfl (lv_at hl 0 rfl) ?_
  refine lv_iload hx hb d_L_law_281 (lv_at hl 4 rfl) ?_
  refine lv_iconst (v := 1) hx hb d_L_law_283 (by decide) ?_
  refine lv_iadd hx hb d_L_law_284 ?_
  refine va_sld hx hb hXs hbl hbA hS (li_1 hj hL) d_L_law_285 ?_
  refine lv_aload_n hx hb d_L_law_286 rfl (lv_at hl 3 rfl) ?_
  obtain ⟨k1, r1, g1, o1, t1, hf1, hf2, hth, hou, hI⟩ := hAG g o t (xs (Int32.toNatClampNeg (nI j + 1))) hI
  have hPc := hP.sub (ws' := wX A cc (g, o)) [0, 1, 2, 3, 4, 5, 6, 7, 8, 9, 10] rfl
  have hDc := hD.sub (ws' := wX A cc (g, o)) [0, 1, 2, 3, 4, 5, 6, 7, 8, 9, 10] (by decide) rfl
  have hKc := hK.sub (tys' := kX cc) [0, 1, 2, 3, 4, 5, 6, 7] rfl
  have hFc := va_free (wc := wX A cc (g, o)) hD hS hA [0, 1, 2, 3, 4, 5, 6, 7, 8, 9, 10] rfl
  refine va_calli (vx_runSW (As := [.ref (A 0), .int (xs (Int32.toNatClampNeg (nI j + 1))), .ref (A 10)]) (rest := []) ⟨hx, hb, hml, hown, hts⟩ (k_L_code l hl0 D A cc (g, o) (xs (Int32.toNatClampNeg (nI j + 1))) _ (k1, (g1, o1)) hf1) (vx_cwSW 3 hts (ga_S ww_331 ww_332 ww_0 ww_333) rfl rfl rfl (by decide +kernel) ⟨by decide, by decide⟩) (pwl_pre hPc hKc hDc hN hX hZ hC hS hFc) rfl rfl hl.1 rfl (lv_room (Nat.le_of_ble_eq_true rfl)) d_L_law_287 ⟨hn, hk⟩) hS (fun q _ h => hFc q h) hFc (fun r9 u9 t9 H locs ht hvm hp hB hz1 hk1 hS => ?_)
  obtain ⟨rfl, rfl⟩ := Prod.mk.inj hp.symm
  obtain ⟨hP1, hK1, hD1⟩ := hB
  rw [ht] at hP1
  obtain ⟨hP, hD⟩ := va_join (wr := wM B dd t) (w1 := wX A cc (g1, o1)) hP hD [0, 1, 2, 3, 4, 5, 6, 7, 8, 9, 10] [11, 12, 13, 14, 15, 16, 17, 18, 19] rfl rfl (by decide) (by decide) hk1 hFc hP1 hD1
  have hP := hP.sub (ws' := wL A cc B dd g1 o1 t) [9, 10, 11, 12, 13, 14, 15, 16, 17, 18, 19, 0, 1, 2, 3, 4, 5, 6, 7, 8] rfl
  have hD := hD.sub (ws' := wL A cc B dd g1 o1 t) [9, 10, 11, 12, 13, 14, 15, 16, 17, 18, 19, 0, 1, 2, 3, 4, 5, 6, 7, 8] (by decide) rfl
  refine lv_istore hx hb d_L_law_290 hl (by decide) (lv' := [(5, .int k1), (0, .ref b), (1, .ref (A 0)), (2, .ref (B 0)), (3, .ref (A 10)), (4, .int (nI j))]) rfl (fun ls hl => ?_)
  refine lv_aload_n hx hb d_L_law_292 rfl (lv_at hl 3 rfl) ?_
  refine lv_aload_n hx hb d_L_law_293 rfl (lv_at hl 1 rfl) ?_
  refine lv_iload hx hb d_L_law_294 (lv_at hl 5 rfl) ?_
  refine lv_iconst (v := 1) hx hb d_L_law_296 (by decide) ?_
  refine lv_iadd hx hb d_L_law_297 ?_
  refine va_sld hx hb hXs hbl hbA hS (li_1 hj hL) d_L_law_298 ?_
  have hPc := hP.sub (ws' := wM B dd t) [11, 12, 13, 14, 15, 16, 17, 18, 19] rfl
  have hDc := hD.sub (ws' := wM B dd t) [11, 12, 13, 14, 15, 16, 17, 18, 19] (by decide) rfl
  have hKc := hK.sub (tys' := kM dd) [8, 9, 10, 11, 12, 13, 14, 15] rfl
  have hFc := va_free (wc := wM B dd t) hD hS hA [11, 12, 13, 14, 15, 16, 17, 18, 19] rfl
  refine va_calll (va_runV (As := [.int (xs (Int32.toNatClampNeg (nI j + 1)))]) (rest := []) ⟨hx, hb, hml, hown, hts⟩ (k_M_code l D B dd t (xs (Int32.toNatClampNeg (nI j + 1))) _ (r1, t1) hf2) (cwV 1 hts (ga_V ww_635 ww_636 ww_637 ww_4 ww_638) rfl rfl rfl (by decide +kernel) ⟨by decide, by decide⟩) (pw_pre (q0 := 0) (ci := 3) hPc hKc hDc hN rfl rfl) rfl rfl hl.1 rfl (lv_room (Nat.le_of_ble_eq_true rfl)) d_L_law_299 ⟨hn, hk⟩) hS (fun q _ h => hFc q h) hFc (fun r9 u9 t9 H locs ht hvm hp hB hz1 hk1 hS => ?_)
  obtain ⟨rfl, rfl⟩ := Prod.mk.inj hp.symm
  obtain ⟨hP1, hK1, hD1⟩ := hB
  rw [ht] at hP1
  obtain ⟨hP, hD⟩ := va_join (wr := wX A cc (g1, o1)) (w1 := wM B dd t1) hP hD [11, 12, 13, 14, 15, 16, 17, 18, 19] [0, 1, 2, 3, 4, 5, 6, 7, 8, 9, 10] rfl rfl (by decide) (by decide) hk1 hFc hP1 hD1
  have hP : va_P D vwC (wL A cc B dd g1 o1 t1) H := hP
  have hD : va_D AA (wL A cc B dd g1 o1 t1) := hD
  refine lv_lstore hx hb d_L_law_302 hl (by decide) (lv' := [(6, .long r1), (5, .int k1), (0, .ref b), (1, .ref (A 0)), (2, .ref (B 0)), (3, .ref (A 10)), (4, .int (nI j))]) rfl (fun ls hl => ?_)
  refine lv_aload_n hx hb d_L_law_304 rfl (lv_at hl 4 rfl) ?_
  have hPc := hP.sub (ws' := wM B dd t1) [11, 12, 13, 14, 15, 16, 17, 18, 19] rfl
  have hDc := hD.sub (ws' := wM B dd t1) [11, 12, 13, 14, 15, 16, 17, 18, 19] (by decide) rfl
  have hKc := hK.sub (tys' := kM dd) [8, 9, 10, 11, 12, 13, 14, 15] rfl
  have hFc := va_free (wc := wM B dd t1) hD hS hA [11, 12, 13, 14, 15, 16, 17, 18, 19] rfl
  refine va_calli (va_runV (As := []) (rest := []) ⟨hx, hb, hml, hown, hts⟩ (k_M_thrown l D B dd t1 _ (t1.1, t1) rfl) (cwV 0 hts (ga_V ww_574 ww_575 ww_576 ww_4 ww_577) rfl rfl rfl (by decide +kernel) ⟨by decide, by decide⟩) (pw_pre (q0 := 0) (ci := 3) hPc hKc hDc hN rfl rfl) rfl rfl hl.1 rfl (lv_room (Nat.le_of_ble_eq_true rfl)) d_L_law_305 ⟨hn, hk⟩) hS (fun q _ h => hFc q h) hFc (fun r9 u9 t9 H locs ht hvm hp hB hz1 hk1 hS => ?_)
  obtain ⟨hp1, hp2⟩ := Prod.mk.inj hp
  subst hp1
  subst hp2
  obtain ⟨hP1, hK1, hD1⟩ := hB
  rw [ht] at hP1
  obtain ⟨hP, hD⟩ := va_join (wr := wX A cc (g1, o1)) (w1 := wM B dd t1) hP hD [11, 12, 13, 14, 15, 16, 17, 18, 19] [0, 1, 2, 3, 4, 5, 6, 7, 8, 9, 10] rfl rfl (by decide) (by decide) hk1 hFc hP1 hD1
  have hP : va_P D vwC (wL A cc B dd g1 o1 t1) H := hP
  have hD : va_D AA (wL A cc B dd g1 o1 t1) := hD
  refine lv_iload hx hb d_L_law_308 (lv_at hl 1 rfl) ?_
  refine lv_icmp_eq hx hb d_L_law_310 (tgt := 315) (by decide) (fun h9 => ?_) (fun h9 => absurd hth h9)
  refine lv_iload hx hb d_L_law_315 (lv_at hl 1 rfl) ?_
  have w1 : W p l e room_1 s m #[Value.ref b] below meth c H locs (n0 + 1) (k0 + 6) Q (F0 m 331 ls []) := by
    refine lv_goto hx hb d_L_law_331 (tgt := 1665) (by decide) ?_
    exact kont g1 o1 t1 _ _ ls hI hP hD hS (lv_sub hl [2, 3, 4, 5, 6] rfl)
  refine lv_if_ne hx hb d_L_law_317 (tgt := 331) (by decide) (fun h9 => w1) (fun h9 => ?_)
  refine lv_aload_n hx hb d_L_law_320 rfl (lv_at hl 5 rfl) ?_
  refine lv_iconst (v := 0) hx hb d_L_law_321 (by decide) ?_
  refine va_lald hx hb hK hP 10 7 rfl rfl (show vp_in 0 1 by unfold vp_in; decide) d_L_law_322 ?_
  refine lv_lload hx hb d_L_law_323 (lv_at hl 0 rfl) ?_
  refine W.lcmp hx hb d_L_law_325 ?_
  exact lv_if_eq hx hb d_L_law_326 (tgt := 331) (by decide) (fun _ => w1) (fun h8 => absurd ((lg_cmp_eq _ _).mpr (hou h9)) h8)
set_option maxHeartbeats 4000000 in
set_option maxRecDepth 100000 in
theorem lw_even {p : Program} {l : Launch} {e : Env} {s : State} {m : MethodId} {below : List Frame} {meth : Method} {c : Code} {b L : Nat} {xs : Nat → Int32} {D : va_G} {A : Nat → Nat} {cc : Nat → ClassId} {B : Nat → Nat} {dd : Nat → ClassId} {AA : Nat → Prop} {Q : State → Prop} (C0 : lc p l s m meth c b L xs D cc dd AA) {I : sK → sM → Prop} (hAG : ag_even I) {g : sK} {o : Nat → Int64} {t : sM} (hI : I g t) {H : Heap} {locs : List Loc} (hP : va_P D vwC (wL A cc B dd g o t) H) (hD : va_D AA (wL A cc B dd g o t)) (hS : va_S AA s.heap H locs) {ls : Array Slot} {j : Nat} (hj : j + 7 ≤ L)
    (hl : lv_has ls 8 [(0, .ref b), (1, .ref (A 0)), (2, .ref (B 0)), (3, .ref (A 10)), (4, .int (nI j))]) {n0 k0 : Nat} (hn : n0 + 1 ≤ 1052) (hk : k0 + 6 ≤ 8410)
    (kont : ∀ (g : sK) (o : Nat → Int64) (t : sM) (H : Heap) (locs : List Loc) (ls : Array Slot), I g t → va_P D vwC (wL A cc B dd g o t) H → va_D AA (wL A cc B dd g o t) → va_S AA s.heap H locs → lv_has ls 8 [(0, .ref b), (1, .ref (A 0)), (2, .ref (B 0)), (3, .ref (A 10)), (4, .int (nI j))] → W p l e room_1 s m #[Value.ref b] below meth c H locs (n0 + 1) (k0 + 6) Q (F0 m 1665 ls [])) :
    W p l e room_1 s m #[Value.ref b] below meth c H locs n0 k0 Q (F0 m 334 ls []) := by
  obtain ⟨hx, hb, hml, hown, hts, hXs, hbl, hbA, hA, hN, hX, hC, hZ, hK, hlocks, hl0, hL⟩ := C0
  have hw : ∀ w ∈ wa, w.before _ s = true := fun w h => hts w (List.mem_cons_of_mem _ h)
  have hn0 : n0 + 0 ≤ 1052 := by omega
  have hk0 : k0 + 0 ≤ 8410 := by omega
  refine lv_aload_n hx hb d_L_law_334 rfl (lv_at hl 1 rfl) ?_
  refine lv_aload_n hx hb d_L_law_335 rfl (lv_at hl 0 rfl) ?_
  refine lv_iload hx hb d_L_law_336 (lv_at hl 4 rfl) ?_
  refine lv_iconst (v := 1) hx hb d_L_law_338 (by decide) ?_
  refine lv_iadd hx hb d_L_law_339 ?_
  refine va_sld hx hb hXs hbl hbA hS (li_1 hj hL) d_L_law_340 ?_
  obtain ⟨r1, g1, t1, hf1, hf2, hI⟩ := hAG g t (xs (Int32.toNatClampNeg (nI j + 1))) hI
  have hPc := hP.sub (ws' := wK A cc g) [0, 1, 2, 3, 4, 5, 6, 7, 8, 9] rfl
  have hDc := hD.sub (ws' := wK A cc g) [0, 1, 2, 3, 4, 5, 6, 7, 8, 9] (by decide) rfl
  have hKc := hK.sub (tys' := kK cc) [0, 1, 2, 3, 4, 5, 6] rfl
  have hFc := va_free (wc := wK A cc g) hD hS hA [0, 1, 2, 3, 4, 5, 6, 7, 8, 9] rfl
  refine va_calll (va_runV (As := [.int (xs (Int32.toNatClampNeg (nI j + 1)))]) (rest := []) ⟨hx, hb, hml, hown, hts⟩ (k_K_even l D A cc g (xs (Int32.toNatClampNeg (nI j + 1))) _ (r1, g1) hf1) (cwV 1 hts (ga_V ww_78 ww_79 ww_80 ww_1 ww_81) rfl rfl rfl (by decide +kernel) ⟨by decide, by decide⟩) (pw_pre (q0 := 0) (ci := 2) hPc hKc hDc hN rfl rfl) rfl rfl hl.1 rfl (lv_room (Nat.le_of_ble_eq_true rfl)) d_L_law_341 ⟨hn0, hk0⟩) hS (fun q _ h => hFc q h) hFc (fun r9 u9 t9 H locs ht hvm hp hB hz1 hk1 hS => ?_)
  obtain ⟨rfl, rfl⟩ := Prod.mk.inj hp.symm
  obtain ⟨hP1, hK1, hD1⟩ := hB
  rw [ht] at hP1
  obtain ⟨hP, hD⟩ := va_join (wr := [(A 10, .inl (cc 10, 1, .inr (.inl o))), (B 0, .inr (3, [.int t.1, .ref (B 1), .ref (B 2), .int t.2.2.2.1, .int t.2.2.2.2.1, .ref (B 3), .ref (B 4), .ref (B 5), .ref (B 6), .int t.2.2.2.2.2.2.2.2.2.1, .ref (B 7), .int t.2.2.2.2.2.2.2.2.2.2.2.1, .ref (B 8)])), (B 1, .inl (dd 1, 6, .inr (.inl t.2.1))), (B 2, .inl (dd 2, 6, .inr (.inl t.2.2.1))), (B 3, .inl (dd 3, 8, .inr (.inl t.2.2.2.2.2.1))), (B 4, .inl (dd 4, 8, .inr (.inl t.2.2.2.2.2.2.1))), (B 5, .inl (dd 5, 8, .inl t.2.2.2.2.2.2.2.1)), (B 6, .inl (dd 6, 8, .inl t.2.2.2.2.2.2.2.2.1)), (B 7, .inl (dd 7, 20, .inl t.2.2.2.2.2.2.2.2.2.2.1)), (B 8, .inl (dd 8, 16, .inl t.2.2.2.2.2.2.2.2.2.2.2.2))]) (w1 := wK A cc g1) hP hD [0, 1, 2, 3, 4, 5, 6, 7, 8, 9] [10, 11, 12, 13, 14, 15, 16, 17, 18, 19] rfl rfl (by decide) (by decide) hk1 hFc hP1 hD1
  have hP := hP.sub (ws' := wL A cc B dd g1 o t) [10, 11, 12, 13, 14, 15, 16, 17, 18, 19, 0, 1, 2, 3, 4, 5, 6, 7, 8, 9] rfl
  have hD := hD.sub (ws' := wL A cc B dd g1 o t) [10, 11, 12, 13, 14, 15, 16, 17, 18, 19, 0, 1, 2, 3, 4, 5, 6, 7, 8, 9] (by decide) rfl
  refine lv_aload_n hx hb d_L_law_344 rfl (lv_at hl 2 rfl) ?_
  refine lv_aload_n hx hb d_L_law_345 rfl (lv_at hl 0 rfl) ?_
  refine lv_iload hx hb d_L_law_346 (lv_at hl 4 rfl) ?_
  refine lv_iconst (v := 1) hx hb d_L_law_348 (by decide) ?_
  refine lv_iadd hx hb d_L_law_349 ?_
  refine va_sld hx hb hXs hbl hbA hS (li_1 hj hL) d_L_law_350 ?_
  have hPc := hP.sub (ws' := wM B dd t) [11, 12, 13, 14, 15, 16, 17, 18, 19] rfl
  have hDc := hD.sub (ws' := wM B dd t) [11, 12, 13, 14, 15, 16, 17, 18, 19] (by decide) rfl
  have hKc := hK.sub (tys' := kM dd) [8, 9, 10, 11, 12, 13, 14, 15] rfl
  have hFc := va_free (wc := wM B dd t) hD hS hA [11, 12, 13, 14, 15, 16, 17, 18, 19] rfl
  refine va_calll (va_runV (As := [.int (xs (Int32.toNatClampNeg (nI j + 1)))]) (rest := [.long r1]) ⟨hx, hb, hml, hown, hts⟩ (k_M_even l D B dd t (xs (Int32.toNatClampNeg (nI j + 1))) _ (r1, t1) hf2) (cwV 1 hts (ga_V ww_639 ww_640 ww_641 ww_4 ww_642) rfl rfl rfl (by decide +kernel) ⟨by decide, by decide⟩) (pw_pre (q0 := 0) (ci := 3) hPc hKc hDc hN rfl rfl) rfl rfl hl.1 rfl (lv_room (Nat.le_of_ble_eq_true rfl)) d_L_law_351 ⟨hn0, hk0⟩) hS (fun q _ h => hFc q h) hFc (fun r9 u9 t9 H locs ht hvm hp hB hz1 hk1 hS => ?_)
  obtain ⟨rfl, rfl⟩ := Prod.mk.inj hp.symm
  obtain ⟨hP1, hK1, hD1⟩ := hB
  rw [ht] at hP1
  obtain ⟨hP, hD⟩ := va_join (wr := wX A cc (g1, o)) (w1 := wM B dd t1) hP hD [11, 12, 13, 14, 15, 16, 17, 18, 19] [0, 1, 2, 3, 4, 5, 6, 7, 8, 9, 10] rfl rfl (by decide) (by decide) hk1 hFc hP1 hD1
  have hP : va_P D vwC (wL A cc B dd g1 o t1) H := hP
  have hD : va_D AA (wL A cc B dd g1 o t1) := hD
  refine W.lcmp hx hb d_L_law_354 ?_
  refine lv_if_eq hx hb d_L_law_355 (tgt := 1665) (by decide) (fun h9 => ?_) (fun h9 => absurd ((lg_cmp_eq _ _).mpr rfl) h9)
  refine W.widen (k := n0 + 1) (n := k0 + 6) (Nat.le_add_right _ _) (Nat.le_add_right _ _) ?_
  exact kont g1 o t1 _ _ ls hI hP hD hS (lv_sub hl [0, 1, 2, 3, 4] rfl)
set_option maxHeartbeats 4000000 in
set_option maxRecDepth 100000 in
theorem lw_tweak {p : Program} {l : Launch} {e : Env} {s : State} {m : MethodId} {below : List Frame} {meth : Method} {c : Code} {b L : Nat} {xs : Nat → Int32} {D : va_G} {A : Nat → Nat} {cc : Nat → ClassId} {B : Nat → Nat} {dd : Nat → ClassId} {AA : Nat → Prop} {Q : State → Prop} (C0 : lc p l s m meth c b L xs D cc dd AA) {I : sK → sM → Prop} (hAG : ag_tweak I) {g : sK} {o : Nat → Int64} {t : sM} (hI : I g t) {H : Heap} {locs : List Loc} (hP : va_P D vwC (wL A cc B dd g o t) H) (hD : va_D AA (wL A cc B dd g o t)) (hS : va_S AA s.heap H locs) {ls : Array Slot} {j : Nat} (hj : j + 7 ≤ L)
    (hl : lv_has ls 8 [(0, .ref b), (1, .ref (A 0)), (2, .ref (B 0)), (3, .ref (A 10)), (4, .int (nI j))]) {n0 k0 : Nat} (hn : n0 + 1 ≤ 1052) (hk : k0 + 6 ≤ 8410)
    (kont : ∀ (g : sK) (o : Nat → Int64) (t : sM) (H : Heap) (locs : List Loc) (ls : Array Slot), I g t → va_P D vwC (wL A cc B dd g o t) H → va_D AA (wL A cc B dd g o t) → va_S AA s.heap H locs → lv_has ls 8 [(0, .ref b), (1, .ref (A 0)), (2, .ref (B 0)), (3, .ref (A 10)), (4, .int (nI j))] → W p l e room_1 s m #[Value.ref b] below meth c H locs (n0 + 1) (k0 + 6) Q (F0 m 1665 ls [])) :
    W p l e room_1 s m #[Value.ref b] below meth c H locs n0 k0 Q (F0 m 360 ls []) := by
  obtain ⟨hx, hb, hml, hown, hts, hXs, hbl, hbA, hA, hN, hX, hC, hZ, hK, hlocks, hl0, hL⟩ := C0
  have hw : ∀ w ∈ wa, w.before _ s = true := fun w h => hts w (List.mem_cons_of_mem _ h)
  have hn0 : n0 + 0 ≤ 1052 := by omega
  have hk0 : k0 + 0 ≤ 8410 := by omega
  refine lv_aload_n hx hb d_L_law_360 rfl (lv_at hl 1 rfl) ?_
  refine lv_aload_n hx hb d_L_law_361 rfl (lv_at hl 0 rfl) ?_
  refine lv_iload hx hb d_L_law_362 (lv_at hl 4 rfl) ?_
  refine lv_iconst (v := 1) hx hb d_L_law_364 (by decide) ?_
  refine lv_iadd hx hb d_L_law_365 ?_
  refine va_sld hx hb hXs hbl hbA hS (li_1 hj hL) d_L_law_366 ?_
  refine lv_aload_n hx hb d_L_law_367 rfl (lv_at hl 0 rfl) ?_
  refine lv_iload hx hb d_L_law_368 (lv_at hl 4 rfl) ?_
  refine lv_iconst (v := 2) hx hb d_L_law_370 (by decide) ?_
  refine lv_iadd hx hb d_L_law_371 ?_
  refine va_sld hx hb hXs hbl hbA hS (li_2 hj hL) d_L_law_372 ?_
  refine lv_aload_n hx hb d_L_law_373 rfl (lv_at hl 0 rfl) ?_
  refine lv_iload hx hb d_L_law_374 (lv_at hl 4 rfl) ?_
  refine lv_iconst (v := 3) hx hb d_L_law_376 (by decide) ?_
  refine lv_iadd hx hb d_L_law_377 ?_
  refine va_sld hx hb hXs hbl hbA hS (li_3 hj hL) d_L_law_378 ?_
  have w1 : ∀ z2 : Int32, z2 = (if (xs (Int32.toNatClampNeg (nI j + 3))) = 0 then 0 else 1) → W p l e room_1 s m #[Value.ref b] below meth c H locs n0 k0 Q (F0 m 387 ls [.int z2, .int (xs (Int32.toNatClampNeg (nI j + 2))), .int (xs (Int32.toNatClampNeg (nI j + 1))), .ref (A 0)]) := by
    intro z2 h_z2
    refine lv_aload_n hx hb d_L_law_387 rfl (lv_at hl 3 rfl) ?_
    obtain ⟨k1, r1, g1, o1, t1, hf1, hf2, hth, hou, hI⟩ := hAG g o t (xs (Int32.toNatClampNeg (nI j + 1))) (xs (Int32.toNatClampNeg (nI j + 2))) z2 hI
    have hPc := hP.sub (ws' := wX A cc (g, o)) [0, 1, 2, 3, 4, 5, 6, 7, 8, 9, 10] rfl
    have hDc := hD.sub (ws' := wX A cc (g, o)) [0, 1, 2, 3, 4, 5, 6, 7, 8, 9, 10] (by decide) rfl
    have hKc := hK.sub (tys' := kX cc) [0, 1, 2, 3, 4, 5, 6, 7] rfl
    have hFc := va_free (wc := wX A cc (g, o)) hD hS hA [0, 1, 2, 3, 4, 5, 6, 7, 8, 9, 10] rfl
    refine va_calli (vx_runSW (As := [.ref (A 0), .int (xs (Int32.toNatClampNeg (nI j + 1))), .int (xs (Int32.toNatClampNeg (nI j + 2))), .int z2, .ref (A 10)]) (rest := []) ⟨hx, hb, hml, hown, hts⟩ (k_L_tweak l hl0 D A cc (g, o) (xs (Int32.toNatClampNeg (nI j + 1))) (xs (Int32.toNatClampNeg (nI j + 2))) z2 _ (k1, (g1, o1)) hf1) (vx_cwSW 5 hts (ga_S ww_338 ww_339 ww_0 ww_340) rfl rfl rfl (by decide +kernel) ⟨by decide, by decide⟩) (pwl_pre hPc hKc hDc hN hX hZ hC hS hFc) rfl rfl hl.1 rfl (lv_room (Nat.le_of_ble_eq_true rfl)) d_L_law_388 ⟨hn, hk⟩) hS (fun q _ h => hFc q h) hFc (fun r9 u9 t9 H locs ht hvm hp hB hz1 hk1 hS => ?_)
    obtain ⟨rfl, rfl⟩ := Prod.mk.inj hp.symm
    obtain ⟨hP1, hK1, hD1⟩ := hB
    rw [ht] at hP1
    obtain ⟨hP, hD⟩ := va_join (wr := wM B dd t) (w1 := wX A cc (g1, o1)) hP hD [0, 1, 2, 3, 4, 5, 6, 7, 8, 9, 10] [11, 12, 13, 14, 15, 16, 17, 18, 19] rfl rfl (by decide) (by decide) hk1 hFc hP1 hD1
    have hP := hP.sub (ws' := wL A cc B dd g1 o1 t) [9, 10, 11, 12, 13, 14, 15, 16, 17, 18, 19, 0, 1, 2, 3, 4, 5, 6, 7, 8] rfl
    have hD := hD.sub (ws' := wL A cc B dd g1 o1 t) [9, 10, 11, 12, 13, 14, 15, 16, 17, 18, 19, 0, 1, 2, 3, 4, 5, 6, 7, 8] (by decide) rfl
    refine lv_istore hx hb d_L_law_391 hl (by decide) (lv' := [(5, .int k1), (0, .ref b), (1, .ref (A 0)), (2, .ref (B 0)), (3, .ref (A 10)), (4, .int (nI j))]) rfl (fun ls hl => ?_)
    refine lv_aload_n hx hb d_L_law_393 rfl (lv_at hl 3 rfl) ?_
    refine lv_aload_n hx hb d_L_law_394 rfl (lv_at hl 1 rfl) ?_
    refine lv_iload hx hb d_L_law_395 (lv_at hl 5 rfl) ?_
    refine lv_iconst (v := 1) hx hb d_L_law_397 (by decide) ?_
    refine lv_iadd hx hb d_L_law_398 ?_
    refine va_sld hx hb hXs hbl hbA hS (li_1 hj hL) d_L_law_399 ?_
    refine lv_aload_n hx hb d_L_law_400 rfl (lv_at hl 1 rfl) ?_
    refine lv_iload hx hb d_L_law_401 (lv_at hl 5 rfl) ?_
    refine lv_iconst (v := 2) hx hb d_L_law_403 (by decide) ?_
    refine lv_iadd hx hb d_L_law_404 ?_
    refine va_sld hx hb hXs hbl hbA hS (li_2 hj hL) d_L_law_405 ?_
    refine lv_aload_n hx hb d_L_law_406 rfl (lv_at hl 1 rfl) ?_
    refine lv_iload hx hb d_L_law_407 (lv_at hl 5 rfl) ?_
    refine lv_iconst (v := 3) hx hb d_L_law_409 (by decide) ?_
    refine lv_iadd hx hb d_L_law_410 ?_
    refine va_sld hx hb hXs hbl hbA hS (li_3 hj hL) d_L_law_411 ?_
    have w3 : ∀ z4 : Int32, z4 = (if (xs (Int32.toNatClampNeg (nI j + 3))) = 0 then 0 else 1) → W p l e room_1 s m #[Value.ref b] below meth c H locs (n0 + 1) (k0 + 6) Q (F0 m 420 ls [.int z4, .int (xs (Int32.toNatClampNeg (nI j + 2))), .int (xs (Int32.toNatClampNeg (nI j + 1))), .ref (B 0)]) := by
      intro z4 h_z4
      obtain rfl : z2 = z4 := h_z2.trans h_z4.symm
      have hPc := hP.sub (ws' := wM B dd t) [11, 12, 13, 14, 15, 16, 17, 18, 19] rfl
      have hDc := hD.sub (ws' := wM B dd t) [11, 12, 13, 14, 15, 16, 17, 18, 19] (by decide) rfl
      have hKc := hK.sub (tys' := kM dd) [8, 9, 10, 11, 12, 13, 14, 15] rfl
      have hFc := va_free (wc := wM B dd t) hD hS hA [11, 12, 13, 14, 15, 16, 17, 18, 19] rfl
      refine va_calll (va_runV (As := [.int (xs (Int32.toNatClampNeg (nI j + 1))), .int (xs (Int32.toNatClampNeg (nI j + 2))), .int z2]) (rest := []) ⟨hx, hb, hml, hown, hts⟩ (k_M_tweak l D B dd t (xs (Int32.toNatClampNeg (nI j + 1))) (xs (Int32.toNatClampNeg (nI j + 2))) z2 _ (r1, t1) hf2) (cwV 3 hts (ga_V ww_643 ww_644 ww_645 ww_4 ww_646) rfl rfl rfl (by decide +kernel) ⟨by decide, by decide⟩) (pw_pre (q0 := 0) (ci := 3) hPc hKc hDc hN rfl rfl) rfl rfl hl.1 rfl (lv_room (Nat.le_of_ble_eq_true rfl)) d_L_law_420 ⟨hn, hk⟩) hS (fun q _ h => hFc q h) hFc (fun r9 u9 t9 H locs ht hvm hp hB hz1 hk1 hS => ?_)
      obtain ⟨rfl, rfl⟩ := Prod.mk.inj hp.symm
      obtain ⟨hP1, hK1, hD1⟩ := hB
      rw [ht] at hP1
      obtain ⟨hP, hD⟩ := va_join (wr := wX A cc (g1, o1)) (w1 := wM B dd t1) hP hD [11, 12, 13, 14, 15, 16, 17, 18, 19] [0, 1, 2, 3, 4, 5, 6, 7, 8, 9, 10] rfl rfl (by decide) (by decide) hk1 hFc hP1 hD1
      have hP : va_P D vwC (wL A cc B dd g1 o1 t1) H := hP
      have hD : va_D AA (wL A cc B dd g1 o1 t1) := hD
      refine lv_lstore hx hb d_L_law_423 hl (by decide) (lv' := [(6, .long r1), (5, .int k1), (0, .ref b), (1, .ref (A 0)), (2, .ref (B 0)), (3, .ref (A 10)), (4, .int (nI j))]) rfl (fun ls hl => ?_)
      refine lv_aload_n hx hb d_L_law_425 rfl (lv_at hl 4 rfl) ?_
      have hPc := hP.sub (ws' := wM B dd t1) [11, 12, 13, 14, 15, 16, 17, 18, 19] rfl
      have hDc := hD.sub (ws' := wM B dd t1) [11, 12, 13, 14, 15, 16, 17, 18, 19] (by decide) rfl
      have hKc := hK.sub (tys' := kM dd) [8, 9, 10, 11, 12, 13, 14, 15] rfl
      have hFc := va_free (wc := wM B dd t1) hD hS hA [11, 12, 13, 14, 15, 16, 17, 18, 19] rfl
      refine va_calli (va_runV (As := []) (rest := []) ⟨hx, hb, hml, hown, hts⟩ (k_M_thrown l D B dd t1 _ (t1.1, t1) rfl) (cwV 0 hts (ga_V ww_574 ww_575 ww_576 ww_4 ww_577) rfl rfl rfl (by decide +kernel) ⟨by decide, by decide⟩) (pw_pre (q0 := 0) (ci := 3) hPc hKc hDc hN rfl rfl) rfl rfl hl.1 rfl (lv_room (Nat.le_of_ble_eq_true rfl)) d_L_law_426 ⟨hn, hk⟩) hS (fun q _ h => hFc q h) hFc (fun r9 u9 t9 H locs ht hvm hp hB hz1 hk1 hS => ?_)
      obtain ⟨hp1, hp2⟩ := Prod.mk.inj hp
      subst hp1
      subst hp2
      obtain ⟨hP1, hK1, hD1⟩ := hB
      rw [ht] at hP1
      obtain ⟨hP, hD⟩ := va_join (wr := wX A cc (g1, o1)) (w1 := wM B dd t1) hP hD [11, 12, 13, 14, 15, 16, 17, 18, 19] [0, 1, 2, 3, 4, 5, 6, 7, 8, 9, 10] rfl rfl (by decide) (by decide) hk1 hFc hP1 hD1
      have hP : va_P D vwC (wL A cc B dd g1 o1 t1) H := hP
      have hD : va_D AA (wL A cc B dd g1 o1 t1) := hD
      refine lv_iload hx hb d_L_law_429 (lv_at hl 1 rfl) ?_
      refine lv_icmp_eq hx hb d_L_law_431 (tgt := 436) (by decide) (fun h9 => ?_) (fun h9 => absurd hth h9)
      refine lv_iload hx hb d_L_law_436 (lv_at hl 1 rfl) ?_
      have w5 : W p l e room_1 s m #[Value.ref b] below meth c H locs (n0 + 1) (k0 + 6) Q (F0 m 452 ls []) := by
        refine lv_goto hx hb d_L_law_452 (tgt := 1665) (by decide) ?_
        exact kont g1 o1 t1 _ _ ls hI hP hD hS (lv_sub hl [2, 3, 4, 5, 6] rfl)
      refine lv_if_ne hx hb d_L_law_438 (tgt := 452) (by decide) (fun h9 => w5) (fun h9 => ?_)
      refine lv_aload_n hx hb d_L_law_441 rfl (lv_at hl 5 rfl) ?_
      refine lv_iconst (v := 0) hx hb d_L_law_442 (by decide) ?_
      refine va_lald hx hb hK hP 10 7 rfl rfl (show vp_in 0 1 by unfold vp_in; decide) d_L_law_443 ?_
      refine lv_lload hx hb d_L_law_444 (lv_at hl 0 rfl) ?_
      refine W.lcmp hx hb d_L_law_446 ?_
      exact lv_if_eq hx hb d_L_law_447 (tgt := 452) (by decide) (fun _ => w5) (fun h8 => absurd ((lg_cmp_eq _ _).mpr (hou h9)) h8)
    refine lv_if_eq hx hb d_L_law_412 (tgt := 419) (by decide) (fun h9 => ?_) (fun h9 => ?_)
    · refine lv_iconst (v := 0) hx hb d_L_law_419 (by decide) ?_
      exact w3 _ (if_pos h9).symm
    · refine lv_iconst (v := 1) hx hb d_L_law_415 (by decide) ?_
      refine lv_goto hx hb d_L_law_416 (tgt := 420) (by decide) ?_
      exact w3 _ (if_neg h9).symm
  refine lv_if_eq hx hb d_L_law_379 (tgt := 386) (by decide) (fun h9 => ?_) (fun h9 => ?_)
  · refine lv_iconst (v := 0) hx hb d_L_law_386 (by decide) ?_
    exact w1 _ (if_pos h9).symm
  · refine lv_iconst (v := 1) hx hb d_L_law_382 (by decide) ?_
    refine lv_goto hx hb d_L_law_383 (tgt := 387) (by decide) ?_
    exact w1 _ (if_neg h9).symm
set_option maxHeartbeats 4000000 in
set_option maxRecDepth 100000 in
theorem lw_mark {p : Program} {l : Launch} {e : Env} {s : State} {m : MethodId} {below : List Frame} {meth : Method} {c : Code} {b L : Nat} {xs : Nat → Int32} {D : va_G} {A : Nat → Nat} {cc : Nat → ClassId} {B : Nat → Nat} {dd : Nat → ClassId} {AA : Nat → Prop} {Q : State → Prop} (C0 : lc p l s m meth c b L xs D cc dd AA) {I : sK → sM → Prop} (hAG : ag_mark I) {g : sK} {o : Nat → Int64} {t : sM} (hI : I g t) {H : Heap} {locs : List Loc} (hP : va_P D vwC (wL A cc B dd g o t) H) (hD : va_D AA (wL A cc B dd g o t)) (hS : va_S AA s.heap H locs) {ls : Array Slot} {j : Nat} (hj : j + 7 ≤ L)
    (hl : lv_has ls 8 [(0, .ref b), (1, .ref (A 0)), (2, .ref (B 0)), (3, .ref (A 10)), (4, .int (nI j))]) {n0 k0 : Nat} (hn : n0 + 1 ≤ 1052) (hk : k0 + 6 ≤ 8410)
    (kont : ∀ (g : sK) (o : Nat → Int64) (t : sM) (H : Heap) (locs : List Loc) (ls : Array Slot), I g t → va_P D vwC (wL A cc B dd g o t) H → va_D AA (wL A cc B dd g o t) → va_S AA s.heap H locs → lv_has ls 8 [(0, .ref b), (1, .ref (A 0)), (2, .ref (B 0)), (3, .ref (A 10)), (4, .int (nI j))] → W p l e room_1 s m #[Value.ref b] below meth c H locs (n0 + 1) (k0 + 6) Q (F0 m 1665 ls [])) :
    W p l e room_1 s m #[Value.ref b] below meth c H locs n0 k0 Q (F0 m 712 ls []) := by
  obtain ⟨hx, hb, hml, hown, hts, hXs, hbl, hbA, hA, hN, hX, hC, hZ, hK, hlocks, hl0, hL⟩ := C0
  have hw : ∀ w ∈ wa, w.before _ s = true := fun w h => hts w (List.mem_cons_of_mem _ h)
  have hn0 : n0 + 0 ≤ 1052 := by omega
  have hk0 : k0 + 0 ≤ 8410 := by omega
  refine lv_aload_n hx hb d_L_law_712 rfl (lv_at hl 1 rfl) ?_
  obtain ⟨r1, g1, t1, hf1, hf2, hI⟩ := hAG g t  hI
  have hPc := hP.sub (ws' := wK A cc g) [0, 1, 2, 3, 4, 5, 6, 7, 8, 9] rfl
  have hDc := hD.sub (ws' := wK A cc g) [0, 1, 2, 3, 4, 5, 6, 7, 8, 9] (by decide) rfl
  have hKc := hK.sub (tys' := kK cc) [0, 1, 2, 3, 4, 5, 6] rfl
  have hFc := va_free (wc := wK A cc g) hD hS hA [0, 1, 2, 3, 4, 5, 6, 7, 8, 9] rfl
  refine va_calli (va_runV (As := []) (rest := []) ⟨hx, hb, hml, hown, hts⟩ (k_K_mark l D A cc g  _ (r1, g1) hf1) (cwV 0 hts (ga_V ww_112 ww_113 ww_114 ww_1 ww_115) rfl rfl rfl (by decide +kernel) ⟨by decide, by decide⟩) (pw_pre (q0 := 0) (ci := 2) hPc hKc hDc hN rfl rfl) rfl rfl hl.1 rfl (lv_room (Nat.le_of_ble_eq_true rfl)) d_L_law_713 ⟨hn0, hk0⟩) hS (fun q _ h => hFc q h) hFc (fun r9 u9 t9 H locs ht hvm hp hB hz1 hk1 hS => ?_)
  obtain ⟨rfl, rfl⟩ := Prod.mk.inj hp.symm
  obtain ⟨hP1, hK1, hD1⟩ := hB
  rw [ht] at hP1
  obtain ⟨hP, hD⟩ := va_join (wr := [(A 10, .inl (cc 10, 1, .inr (.inl o))), (B 0, .inr (3, [.int t.1, .ref (B 1), .ref (B 2), .int t.2.2.2.1, .int t.2.2.2.2.1, .ref (B 3), .ref (B 4), .ref (B 5), .ref (B 6), .int t.2.2.2.2.2.2.2.2.2.1, .ref (B 7), .int t.2.2.2.2.2.2.2.2.2.2.2.1, .ref (B 8)])), (B 1, .inl (dd 1, 6, .inr (.inl t.2.1))), (B 2, .inl (dd 2, 6, .inr (.inl t.2.2.1))), (B 3, .inl (dd 3, 8, .inr (.inl t.2.2.2.2.2.1))), (B 4, .inl (dd 4, 8, .inr (.inl t.2.2.2.2.2.2.1))), (B 5, .inl (dd 5, 8, .inl t.2.2.2.2.2.2.2.1)), (B 6, .inl (dd 6, 8, .inl t.2.2.2.2.2.2.2.2.1)), (B 7, .inl (dd 7, 20, .inl t.2.2.2.2.2.2.2.2.2.2.1)), (B 8, .inl (dd 8, 16, .inl t.2.2.2.2.2.2.2.2.2.2.2.2))]) (w1 := wK A cc g1) hP hD [0, 1, 2, 3, 4, 5, 6, 7, 8, 9] [10, 11, 12, 13, 14, 15, 16, 17, 18, 19] rfl rfl (by decide) (by decide) hk1 hFc hP1 hD1
  have hP := hP.sub (ws' := wL A cc B dd g1 o t) [10, 11, 12, 13, 14, 15, 16, 17, 18, 19, 0, 1, 2, 3, 4, 5, 6, 7, 8, 9] rfl
  have hD := hD.sub (ws' := wL A cc B dd g1 o t) [10, 11, 12, 13, 14, 15, 16, 17, 18, 19, 0, 1, 2, 3, 4, 5, 6, 7, 8, 9] (by decide) rfl
  refine lv_aload_n hx hb d_L_law_716 rfl (lv_at hl 2 rfl) ?_
  have hPc := hP.sub (ws' := wM B dd t) [11, 12, 13, 14, 15, 16, 17, 18, 19] rfl
  have hDc := hD.sub (ws' := wM B dd t) [11, 12, 13, 14, 15, 16, 17, 18, 19] (by decide) rfl
  have hKc := hK.sub (tys' := kM dd) [8, 9, 10, 11, 12, 13, 14, 15] rfl
  have hFc := va_free (wc := wM B dd t) hD hS hA [11, 12, 13, 14, 15, 16, 17, 18, 19] rfl
  refine va_calli (va_runV (As := []) (rest := [.int r1]) ⟨hx, hb, hml, hown, hts⟩ (k_M_mark l D B dd t  _ (r1, t1) hf2) (cwV 0 hts (ga_V ww_684 ww_685 ww_686 ww_4 ww_687) rfl rfl rfl (by decide +kernel) ⟨by decide, by decide⟩) (pw_pre (q0 := 0) (ci := 3) hPc hKc hDc hN rfl rfl) rfl rfl hl.1 rfl (lv_room (Nat.le_of_ble_eq_true rfl)) d_L_law_717 ⟨hn0, hk0⟩) hS (fun q _ h => hFc q h) hFc (fun r9 u9 t9 H locs ht hvm hp hB hz1 hk1 hS => ?_)
  obtain ⟨rfl, rfl⟩ := Prod.mk.inj hp.symm
  obtain ⟨hP1, hK1, hD1⟩ := hB
  rw [ht] at hP1
  obtain ⟨hP, hD⟩ := va_join (wr := wX A cc (g1, o)) (w1 := wM B dd t1) hP hD [11, 12, 13, 14, 15, 16, 17, 18, 19] [0, 1, 2, 3, 4, 5, 6, 7, 8, 9, 10] rfl rfl (by decide) (by decide) hk1 hFc hP1 hD1
  have hP : va_P D vwC (wL A cc B dd g1 o t1) H := hP
  have hD : va_D AA (wL A cc B dd g1 o t1) := hD
  refine lv_icmp_eq hx hb d_L_law_720 (tgt := 1665) (by decide) (fun h9 => ?_) (fun h9 => absurd rfl h9)
  refine W.widen (k := n0 + 1) (n := k0 + 6) (Nat.le_add_right _ _) (Nat.le_add_right _ _) ?_
  exact kont g1 o t1 _ _ ls hI hP hD hS (lv_sub hl [0, 1, 2, 3, 4] rfl)
set_option maxHeartbeats 4000000 in
set_option maxRecDepth 100000 in
theorem lw_good {p : Program} {l : Launch} {e : Env} {s : State} {m : MethodId} {below : List Frame} {meth : Method} {c : Code} {b L : Nat} {xs : Nat → Int32} {D : va_G} {A : Nat → Nat} {cc : Nat → ClassId} {B : Nat → Nat} {dd : Nat → ClassId} {AA : Nat → Prop} {Q : State → Prop} (C0 : lc p l s m meth c b L xs D cc dd AA) {I : sK → sM → Prop} (hAG : ag_good I) {g : sK} {o : Nat → Int64} {t : sM} (hI : I g t) {H : Heap} {locs : List Loc} (hP : va_P D vwC (wL A cc B dd g o t) H) (hD : va_D AA (wL A cc B dd g o t)) (hS : va_S AA s.heap H locs) {ls : Array Slot} {j : Nat} (hj : j + 7 ≤ L)
    (hl : lv_has ls 8 [(0, .ref b), (1, .ref (A 0)), (2, .ref (B 0)), (3, .ref (A 10)), (4, .int (nI j))]) {n0 k0 : Nat} (hn : n0 + 1 ≤ 1052) (hk : k0 + 6 ≤ 8410)
    (kont : ∀ (g : sK) (o : Nat → Int64) (t : sM) (H : Heap) (locs : List Loc) (ls : Array Slot), I g t → va_P D vwC (wL A cc B dd g o t) H → va_D AA (wL A cc B dd g o t) → va_S AA s.heap H locs → lv_has ls 8 [(0, .ref b), (1, .ref (A 0)), (2, .ref (B 0)), (3, .ref (A 10)), (4, .int (nI j))] → W p l e room_1 s m #[Value.ref b] below meth c H locs (n0 + 1) (k0 + 6) Q (F0 m 1665 ls [])) :
    W p l e room_1 s m #[Value.ref b] below meth c H locs n0 k0 Q (F0 m 725 ls []) := by
  obtain ⟨hx, hb, hml, hown, hts, hXs, hbl, hbA, hA, hN, hX, hC, hZ, hK, hlocks, hl0, hL⟩ := C0
  have hw : ∀ w ∈ wa, w.before _ s = true := fun w h => hts w (List.mem_cons_of_mem _ h)
  have hn0 : n0 + 0 ≤ 1052 := by omega
  have hk0 : k0 + 0 ≤ 8410 := by omega
  refine lv_aload_n hx hb d_L_law_725 rfl (lv_at hl 1 rfl) ?_
  refine lv_aload_n hx hb d_L_law_726 rfl (lv_at hl 0 rfl) ?_
  refine lv_iload hx hb d_L_law_727 (lv_at hl 4 rfl) ?_
  refine lv_iconst (v := 1) hx hb d_L_law_729 (by decide) ?_
  refine lv_iadd hx hb d_L_law_730 ?_
  refine va_sld hx hb hXs hbl hbA hS (li_1 hj hL) d_L_law_731 ?_
  refine lv_aload_n hx hb d_L_law_732 rfl (lv_at hl 0 rfl) ?_
  refine lv_iload hx hb d_L_law_733 (lv_at hl 4 rfl) ?_
  refine lv_iconst (v := 2) hx hb d_L_law_735 (by decide) ?_
  refine lv_iadd hx hb d_L_law_736 ?_
  refine va_sld hx hb hXs hbl hbA hS (li_2 hj hL) d_L_law_737 ?_
  refine lv_i2l (v := Int32.toInt64 (xs (Int32.toNatClampNeg (nI j + 2)))) hx hb d_L_law_738 rfl ?_
  refine lv_bipush (v := 32) hx hb d_L_law_739 (by decide) ?_
  refine lv_lshl (v := (Int32.toInt64 (xs (Int32.toNatClampNeg (nI j + 2)))) <<< ((Int32.toInt64 32) &&& 63)) hx hb d_L_law_741 rfl ?_
  refine lv_aload_n hx hb d_L_law_742 rfl (lv_at hl 0 rfl) ?_
  refine lv_iload hx hb d_L_law_743 (lv_at hl 4 rfl) ?_
  refine lv_iconst (v := 3) hx hb d_L_law_745 (by decide) ?_
  refine lv_iadd hx hb d_L_law_746 ?_
  refine va_sld hx hb hXs hbl hbA hS (li_3 hj hL) d_L_law_747 ?_
  refine lv_i2l (v := Int32.toInt64 (xs (Int32.toNatClampNeg (nI j + 3)))) hx hb d_L_law_748 rfl ?_
  refine lv_ldc2 (v := 4294967295) hx hb hown (hw _ ww_767) d_L_law_749 ?_
  refine lv_land hx hb d_L_law_752 ?_
  refine lv_lor hx hb d_L_law_753 ?_
  refine lv_aload_n hx hb d_L_law_754 rfl (lv_at hl 0 rfl) ?_
  refine lv_iload hx hb d_L_law_755 (lv_at hl 4 rfl) ?_
  refine lv_iconst (v := 4) hx hb d_L_law_757 (by decide) ?_
  refine lv_iadd hx hb d_L_law_758 ?_
  refine va_sld hx hb hXs hbl hbA hS (li_4 hj hL) d_L_law_759 ?_
  refine lv_aload_n hx hb d_L_law_760 rfl (lv_at hl 0 rfl) ?_
  refine lv_iload hx hb d_L_law_761 (lv_at hl 4 rfl) ?_
  refine lv_iconst (v := 5) hx hb d_L_law_763 (by decide) ?_
  refine lv_iadd hx hb d_L_law_764 ?_
  refine va_sld hx hb hXs hbl hbA hS (li_5 hj hL) d_L_law_765 ?_
  refine lv_aload_n hx hb d_L_law_766 rfl (lv_at hl 3 rfl) ?_
  obtain ⟨k1, r1, g1, o1, t1, hf1, hf2, hth, hou, hI⟩ := hAG g o t (xs (Int32.toNatClampNeg (nI j + 1))) (((Int32.toInt64 (xs (Int32.toNatClampNeg (nI j + 2)))) <<< ((Int32.toInt64 32) &&& 63)) ||| ((Int32.toInt64 (xs (Int32.toNatClampNeg (nI j + 3)))) &&& 4294967295)) (xs (Int32.toNatClampNeg (nI j + 4))) (xs (Int32.toNatClampNeg (nI j + 5))) hI
  have hPc := hP.sub (ws' := wX A cc (g, o)) [0, 1, 2, 3, 4, 5, 6, 7, 8, 9, 10] rfl
  have hDc := hD.sub (ws' := wX A cc (g, o)) [0, 1, 2, 3, 4, 5, 6, 7, 8, 9, 10] (by decide) rfl
  have hKc := hK.sub (tys' := kX cc) [0, 1, 2, 3, 4, 5, 6, 7] rfl
  have hFc := va_free (wc := wX A cc (g, o)) hD hS hA [0, 1, 2, 3, 4, 5, 6, 7, 8, 9, 10] rfl
  refine va_calli (vx_runSW (As := [.ref (A 0), .int (xs (Int32.toNatClampNeg (nI j + 1))), .long (((Int32.toInt64 (xs (Int32.toNatClampNeg (nI j + 2)))) <<< ((Int32.toInt64 32) &&& 63)) ||| ((Int32.toInt64 (xs (Int32.toNatClampNeg (nI j + 3)))) &&& 4294967295)), .int (xs (Int32.toNatClampNeg (nI j + 4))), .int (xs (Int32.toNatClampNeg (nI j + 5))), .ref (A 10)]) (rest := []) ⟨hx, hb, hml, hown, hts⟩ (k_L_good l hl0 D A cc (g, o) (xs (Int32.toNatClampNeg (nI j + 1))) (((Int32.toInt64 (xs (Int32.toNatClampNeg (nI j + 2)))) <<< ((Int32.toInt64 32) &&& 63)) ||| ((Int32.toInt64 (xs (Int32.toNatClampNeg (nI j + 3)))) &&& 4294967295)) (xs (Int32.toNatClampNeg (nI j + 4))) (xs (Int32.toNatClampNeg (nI j + 5))) _ (k1, (g1, o1)) hf1) (vx_cwSW 6 hts (ga_S ww_442 ww_443 ww_0 ww_444) rfl rfl rfl (by decide +kernel) ⟨by decide, by decide⟩) (pwl_pre hPc hKc hDc hN hX hZ hC hS hFc) rfl rfl hl.1 rfl (lv_room (Nat.le_of_ble_eq_true rfl)) d_L_law_767 ⟨hn, hk⟩) hS (fun q _ h => hFc q h) hFc (fun r9 u9 t9 H locs ht hvm hp hB hz1 hk1 hS => ?_)
  obtain ⟨rfl, rfl⟩ := Prod.mk.inj hp.symm
  obtain ⟨hP1, hK1, hD1⟩ := hB
  rw [ht] at hP1
  obtain ⟨hP, hD⟩ := va_join (wr := wM B dd t) (w1 := wX A cc (g1, o1)) hP hD [0, 1, 2, 3, 4, 5, 6, 7, 8, 9, 10] [11, 12, 13, 14, 15, 16, 17, 18, 19] rfl rfl (by decide) (by decide) hk1 hFc hP1 hD1
  have hP := hP.sub (ws' := wL A cc B dd g1 o1 t) [9, 10, 11, 12, 13, 14, 15, 16, 17, 18, 19, 0, 1, 2, 3, 4, 5, 6, 7, 8] rfl
  have hD := hD.sub (ws' := wL A cc B dd g1 o1 t) [9, 10, 11, 12, 13, 14, 15, 16, 17, 18, 19, 0, 1, 2, 3, 4, 5, 6, 7, 8] (by decide) rfl
  refine lv_istore hx hb d_L_law_770 hl (by decide) (lv' := [(5, .int k1), (0, .ref b), (1, .ref (A 0)), (2, .ref (B 0)), (3, .ref (A 10)), (4, .int (nI j))]) rfl (fun ls hl => ?_)
  refine lv_aload_n hx hb d_L_law_772 rfl (lv_at hl 3 rfl) ?_
  refine lv_aload_n hx hb d_L_law_773 rfl (lv_at hl 1 rfl) ?_
  refine lv_iload hx hb d_L_law_774 (lv_at hl 5 rfl) ?_
  refine lv_iconst (v := 1) hx hb d_L_law_776 (by decide) ?_
  refine lv_iadd hx hb d_L_law_777 ?_
  refine va_sld hx hb hXs hbl hbA hS (li_1 hj hL) d_L_law_778 ?_
  refine lv_aload_n hx hb d_L_law_779 rfl (lv_at hl 1 rfl) ?_
  refine lv_iload hx hb d_L_law_780 (lv_at hl 5 rfl) ?_
  refine lv_iconst (v := 2) hx hb d_L_law_782 (by decide) ?_
  refine lv_iadd hx hb d_L_law_783 ?_
  refine va_sld hx hb hXs hbl hbA hS (li_2 hj hL) d_L_law_784 ?_
  refine lv_i2l (v := Int32.toInt64 (xs (Int32.toNatClampNeg (nI j + 2)))) hx hb d_L_law_785 rfl ?_
  refine lv_bipush (v := 32) hx hb d_L_law_786 (by decide) ?_
  refine lv_lshl (v := (Int32.toInt64 (xs (Int32.toNatClampNeg (nI j + 2)))) <<< ((Int32.toInt64 32) &&& 63)) hx hb d_L_law_788 rfl ?_
  refine lv_aload_n hx hb d_L_law_789 rfl (lv_at hl 1 rfl) ?_
  refine lv_iload hx hb d_L_law_790 (lv_at hl 5 rfl) ?_
  refine lv_iconst (v := 3) hx hb d_L_law_792 (by decide) ?_
  refine lv_iadd hx hb d_L_law_793 ?_
  refine va_sld hx hb hXs hbl hbA hS (li_3 hj hL) d_L_law_794 ?_
  refine lv_i2l (v := Int32.toInt64 (xs (Int32.toNatClampNeg (nI j + 3)))) hx hb d_L_law_795 rfl ?_
  refine lv_ldc2 (v := 4294967295) hx hb hown (hw _ ww_767) d_L_law_796 ?_
  refine lv_land hx hb d_L_law_799 ?_
  refine lv_lor hx hb d_L_law_800 ?_
  refine lv_aload_n hx hb d_L_law_801 rfl (lv_at hl 1 rfl) ?_
  refine lv_iload hx hb d_L_law_802 (lv_at hl 5 rfl) ?_
  refine lv_iconst (v := 4) hx hb d_L_law_804 (by decide) ?_
  refine lv_iadd hx hb d_L_law_805 ?_
  refine va_sld hx hb hXs hbl hbA hS (li_4 hj hL) d_L_law_806 ?_
  refine lv_aload_n hx hb d_L_law_807 rfl (lv_at hl 1 rfl) ?_
  refine lv_iload hx hb d_L_law_808 (lv_at hl 5 rfl) ?_
  refine lv_iconst (v := 5) hx hb d_L_law_810 (by decide) ?_
  refine lv_iadd hx hb d_L_law_811 ?_
  refine va_sld hx hb hXs hbl hbA hS (li_5 hj hL) d_L_law_812 ?_
  have hPc := hP.sub (ws' := wM B dd t) [11, 12, 13, 14, 15, 16, 17, 18, 19] rfl
  have hDc := hD.sub (ws' := wM B dd t) [11, 12, 13, 14, 15, 16, 17, 18, 19] (by decide) rfl
  have hKc := hK.sub (tys' := kM dd) [8, 9, 10, 11, 12, 13, 14, 15] rfl
  have hFc := va_free (wc := wM B dd t) hD hS hA [11, 12, 13, 14, 15, 16, 17, 18, 19] rfl
  refine va_calli (va_runV (As := [.int (xs (Int32.toNatClampNeg (nI j + 1))), .long (((Int32.toInt64 (xs (Int32.toNatClampNeg (nI j + 2)))) <<< ((Int32.toInt64 32) &&& 63)) ||| ((Int32.toInt64 (xs (Int32.toNatClampNeg (nI j + 3)))) &&& 4294967295)), .int (xs (Int32.toNatClampNeg (nI j + 4))), .int (xs (Int32.toNatClampNeg (nI j + 5)))]) (rest := []) ⟨hx, hb, hml, hown, hts⟩ (k_M_good l D B dd t (xs (Int32.toNatClampNeg (nI j + 1))) (((Int32.toInt64 (xs (Int32.toNatClampNeg (nI j + 2)))) <<< ((Int32.toInt64 32) &&& 63)) ||| ((Int32.toInt64 (xs (Int32.toNatClampNeg (nI j + 3)))) &&& 4294967295)) (xs (Int32.toNatClampNeg (nI j + 4))) (xs (Int32.toNatClampNeg (nI j + 5))) _ (r1, t1) hf2) (cwV 4 hts (ga_V ww_688 ww_689 ww_690 ww_4 ww_691) rfl rfl rfl (by decide +kernel) ⟨by decide, by decide⟩) (pw_pre (q0 := 0) (ci := 3) hPc hKc hDc hN rfl rfl) rfl rfl hl.1 rfl (lv_room (Nat.le_of_ble_eq_true rfl)) d_L_law_813 ⟨hn, hk⟩) hS (fun q _ h => hFc q h) hFc (fun r9 u9 t9 H locs ht hvm hp hB hz1 hk1 hS => ?_)
  obtain ⟨rfl, rfl⟩ := Prod.mk.inj hp.symm
  obtain ⟨hP1, hK1, hD1⟩ := hB
  rw [ht] at hP1
  obtain ⟨hP, hD⟩ := va_join (wr := wX A cc (g1, o1)) (w1 := wM B dd t1) hP hD [11, 12, 13, 14, 15, 16, 17, 18, 19] [0, 1, 2, 3, 4, 5, 6, 7, 8, 9, 10] rfl rfl (by decide) (by decide) hk1 hFc hP1 hD1
  have hP : va_P D vwC (wL A cc B dd g1 o1 t1) H := hP
  have hD : va_D AA (wL A cc B dd g1 o1 t1) := hD
  refine lv_istore hx hb d_L_law_816 hl (by decide) (lv' := [(6, .int r1), (5, .int k1), (0, .ref b), (1, .ref (A 0)), (2, .ref (B 0)), (3, .ref (A 10)), (4, .int (nI j))]) rfl (fun ls hl => ?_)
  refine lv_aload_n hx hb d_L_law_818 rfl (lv_at hl 4 rfl) ?_
  have hPc := hP.sub (ws' := wM B dd t1) [11, 12, 13, 14, 15, 16, 17, 18, 19] rfl
  have hDc := hD.sub (ws' := wM B dd t1) [11, 12, 13, 14, 15, 16, 17, 18, 19] (by decide) rfl
  have hKc := hK.sub (tys' := kM dd) [8, 9, 10, 11, 12, 13, 14, 15] rfl
  have hFc := va_free (wc := wM B dd t1) hD hS hA [11, 12, 13, 14, 15, 16, 17, 18, 19] rfl
  refine va_calli (va_runV (As := []) (rest := []) ⟨hx, hb, hml, hown, hts⟩ (k_M_thrown l D B dd t1 _ (t1.1, t1) rfl) (cwV 0 hts (ga_V ww_574 ww_575 ww_576 ww_4 ww_577) rfl rfl rfl (by decide +kernel) ⟨by decide, by decide⟩) (pw_pre (q0 := 0) (ci := 3) hPc hKc hDc hN rfl rfl) rfl rfl hl.1 rfl (lv_room (Nat.le_of_ble_eq_true rfl)) d_L_law_819 ⟨hn, hk⟩) hS (fun q _ h => hFc q h) hFc (fun r9 u9 t9 H locs ht hvm hp hB hz1 hk1 hS => ?_)
  obtain ⟨hp1, hp2⟩ := Prod.mk.inj hp
  subst hp1
  subst hp2
  obtain ⟨hP1, hK1, hD1⟩ := hB
  rw [ht] at hP1
  obtain ⟨hP, hD⟩ := va_join (wr := wX A cc (g1, o1)) (w1 := wM B dd t1) hP hD [11, 12, 13, 14, 15, 16, 17, 18, 19] [0, 1, 2, 3, 4, 5, 6, 7, 8, 9, 10] rfl rfl (by decide) (by decide) hk1 hFc hP1 hD1
  have hP : va_P D vwC (wL A cc B dd g1 o1 t1) H := hP
  have hD : va_D AA (wL A cc B dd g1 o1 t1) := hD
  refine lv_iload hx hb d_L_law_822 (lv_at hl 1 rfl) ?_
  refine lv_icmp_eq hx hb d_L_law_824 (tgt := 829) (by decide) (fun h9 => ?_) (fun h9 => absurd hth h9)
  refine lv_iload hx hb d_L_law_829 (lv_at hl 1 rfl) ?_
  have w1 : W p l e room_1 s m #[Value.ref b] below meth c H locs (n0 + 1) (k0 + 6) Q (F0 m 853 ls []) := by
    refine lv_goto hx hb d_L_law_853 (tgt := 1665) (by decide) ?_
    exact kont g1 o1 t1 _ _ ls hI hP hD hS (lv_sub hl [2, 3, 4, 5, 6] rfl)
  refine lv_if_ne hx hb d_L_law_831 (tgt := 853) (by decide) (fun h9 => w1) (fun h9 => ?_)
  refine lv_aload_n hx hb d_L_law_834 rfl (lv_at hl 5 rfl) ?_
  refine lv_iconst (v := 0) hx hb d_L_law_835 (by decide) ?_
  refine va_lald hx hb hK hP 10 7 rfl rfl (show vp_in 0 1 by unfold vp_in; decide) d_L_law_836 ?_
  refine lv_iload hx hb d_L_law_837 (lv_at hl 0 rfl) ?_
  refine lv_if_eq hx hb d_L_law_839 (tgt := 846) (by decide) (fun h7 => ?_) (fun h7 => ?_)
  · skip
    refine lv_lconst (v := 0) hx hb d_L_law_846 (by decide) ?_
    refine W.lcmp hx hb d_L_law_847 ?_
    exact lv_if_eq hx hb d_L_law_848 (tgt := 853) (by decide) (fun _ => w1) (fun h8 => absurd ((lg_cmp_eq _ _).mpr ((hou h9).trans (if_pos h7))) h8)
  · skip
    refine lv_lconst (v := 1) hx hb d_L_law_842 (by decide) ?_
    refine lv_goto hx hb d_L_law_843 (tgt := 847) (by decide) ?_
    refine W.lcmp hx hb d_L_law_847 ?_
    exact lv_if_eq hx hb d_L_law_848 (tgt := 853) (by decide) (fun _ => w1) (fun h8 => absurd ((lg_cmp_eq _ _).mpr ((hou h9).trans (if_neg h7))) h8)
