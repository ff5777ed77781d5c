/-! The law's walk, a case a row, over what the answers are said to be (ag_..). -/
abbrev wL (A : Nat → Nat) (cc : Nat → ClassId) (B : Nat → Nat) (dd : Nat → ClassId) (u : sK) (o : Nat → Int64) (v : sM) : va_W := [(A 0, .inr (2, [.ref (A 1), .ref (A 2), .ref (A 3), .ref (A 8), .int u.2.2.1])), (A 1, .inl (cc 1, 6, .inr (.inl u.1))), (A 2, .inl (cc 2, 6, .inr (.inl u.2.1))), (A 3, .inr (0, [.ref (A 4), .ref (A 5), .ref (A 6), .ref (A 7), .int u.2.2.2.2.2.2.2.1])), (A 4, .inl (cc 4, 8, .inr (.inl u.2.2.2.1))), (A 5, .inl (cc 5, 8, .inr (.inl u.2.2.2.2.1))), (A 6, .inl (cc 6, 8, .inl u.2.2.2.2.2.1)), (A 7, .inl (cc 7, 8, .inl u.2.2.2.2.2.2.1)), (A 8, .inr (1, [.ref (A 9), .int u.2.2.2.2.2.2.2.2.2])), (A 9, .inl (cc 9, 20, .inl u.2.2.2.2.2.2.2.2.1)), (A 10, .inl (cc 10, 1, .inr (.inl o))), (B 0, .inr (3, [.int v.1, .ref (B 1), .ref (B 2), .int v.2.2.2.1, .int v.2.2.2.2.1, .ref (B 3), .ref (B 4), .ref (B 5), .ref (B 6), .int v.2.2.2.2.2.2.2.2.2.1, .ref (B 7), .int v.2.2.2.2.2.2.2.2.2.2.2.1, .ref (B 8)])), (B 1, .inl (dd 1, 6, .inr (.inl v.2.1))), (B 2, .inl (dd 2, 6, .inr (.inl v.2.2.1))), (B 3, .inl (dd 3, 8, .inr (.inl v.2.2.2.2.2.1))), (B 4, .inl (dd 4, 8, .inr (.inl v.2.2.2.2.2.2.1))), (B 5, .inl (dd 5, 8, .inl v.2.2.2.2.2.2.2.1)), (B 6, .inl (dd 6, 8, .inl v.2.2.2.2.2.2.2.2.1)), (B 7, .inl (dd 7, 20, .inl v.2.2.2.2.2.2.2.2.2.2.1)), (B 8, .inl (dd 8, 16, .inl v.2.2.2.2.2.2.2.2.2.2.2.2))]
abbrev kL (cc dd : Nat → ClassId) : List (ClassId × FieldType) := [(cc 1, .long), (cc 2, .long), (cc 4, .long), (cc 5, .long), (cc 6, .int), (cc 7, .int), (cc 9, .int), (cc 10, .long), (dd 1, .long), (dd 2, .long), (dd 3, .long), (dd 4, .long), (dd 5, .int), (dd 6, .int), (dd 7, .int), (dd 8, .int)]
/-- what stands through the law -/
def lc (p : Program) (l : Launch) (s : State) (m : MethodId) (meth : Method) (c : Code) (b L : Nat) (xs : Nat → Int32) (D : va_G) (cc dd : Nat → ClassId) (AA : Nat → Prop) : Prop :=
  p.tables.exec = Jvm.exec ∧ c.code = b_L_law ∧ c.maxLocals = 8 ∧ s.vm.findClass R_L = some m.cls ∧ (∀ w ∈ Cond.initialized "EvenCurveKeys" :: wa, w.before #[Value.ref b] s = true) ∧ va_X b L xs s s.heap ∧ b < s.heap.size ∧ ¬ AA b ∧ (∀ q : Nat, s.heap.size ≤ q → AA q) ∧ nw s ∧ nx s ∧ nc s ∧ zq AA s s.heap ∧ va_K D vwC (kL cc dd) s ∧ meth.locks = false ∧ l.stackTraces = false ∧ L < 2 ^ 31
theorem li_0 {j L : Nat} (h : j + 7 ≤ L) (hL : L < 2 ^ 31) : vp_in (nI j) L := vp_in_nI (by omega) hL
theorem li_1 {j L : Nat} (h : j + 7 ≤ L) (hL : L < 2 ^ 31) : vp_in (nI j + 1) L := by rw [show (1 : Int32) = nI 1 from rfl, nI_add]; exact vp_in_nI (by omega) hL
theorem li_2 {j L : Nat} (h : j + 7 ≤ L) (hL : L < 2 ^ 31) : vp_in (nI j + 2) L := by rw [show (2 : Int32) = nI 2 from rfl, nI_add]; exact vp_in_nI (by omega) hL
theorem li_3 {j L : Nat} (h : j + 7 ≤ L) (hL : L < 2 ^ 31) : vp_in (nI j + 3) L := by rw [show (3 : Int32) = nI 3 from rfl, nI_add]; exact vp_in_nI (by omega) hL
theorem li_4 {j L : Nat} (h : j + 7 ≤ L) (hL : L < 2 ^ 31) : vp_in (nI j + 4) L := by rw [show (4 : Int32) = nI 4 from rfl, nI_add]; exact vp_in_nI (by omega) hL
theorem li_5 {j L : Nat} (h : j + 7 ≤ L) (hL : L < 2 ^ 31) : vp_in (nI j + 5) L := by rw [show (5 : Int32) = nI 5 from rfl, nI_add]; exact vp_in_nI (by omega) hL
theorem li_6 {j L : Nat} (h : j + 7 ≤ L) (hL : L < 2 ^ 31) : vp_in (nI j + 6) L := by rw [show (6 : Int32) = nI 6 from rfl, nI_add]; exact vp_in_nI (by omega) hL
def ag_secret (I : sK → sM → Prop) : Prop := ∀ (g : sK) (o : Nat → Int64) (t : sM) (a0 : Int32) (a1 : Int32), I g t → ∃ k r g1 o1 t1, f_L_secret (g, o) a0 a1 = some (k, (g1, o1)) ∧ f_M_secret t a0 a1 = some (r, t1) ∧ t1.1 = k ∧ (k = 0 → o1 (Int32.toNatClampNeg 0) = r) ∧ I g1 t1
def ag_open (I : sK → sM → Prop) : Prop := ∀ (g : sK) (o : Nat → Int64) (t : sM) (a0 : Int32) (a1 : Int64), I g t → ∃ k g1 o1 t1, f_L_open (g, o) a0 a1 = some (k, (g1, o1)) ∧ f_M_open t a0 a1 = some t1 ∧ t1.1 = k ∧ I g1 t1
def ag_code (I : sK → sM → Prop) : Prop := ∀ (g : sK) (o : Nat → Int64) (t : sM) (a0 : Int32), I g t → ∃ k r g1 o1 t1, f_L_code (g, o) a0 = some (k, (g1, o1)) ∧ f_M_code t a0 = some (r, t1) ∧ t1.1 = k ∧ (k = 0 → o1 (Int32.toNatClampNeg 0) = r) ∧ I g1 t1
def ag_even (I : sK → sM → Prop) : Prop := ∀ (g : sK) (t : sM) (a0 : Int32), I g t → ∃ r g1 t1, f_K_even g a0 = some (r, g1) ∧ f_M_even t a0 = some (r, t1) ∧ I g1 t1
def ag_tweak (I : sK → sM → Prop) : Prop := ∀ (g : sK) (o : Nat → Int64) (t : sM) (a0 : Int32) (a1 : Int32) (a2 : Int32), I g t → ∃ k r g1 o1 t1, f_L_tweak (g, o) a0 a1 a2 = some (k, (g1, o1)) ∧ f_M_tweak t a0 a1 a2 = some (r, t1) ∧ t1.1 = k ∧ (k = 0 → o1 (Int32.toNatClampNeg 0) = r) ∧ I g1 t1
def ag_combine (I : sK → sM → Prop) : Prop := ∀ (g : sK) (o : Nat → Int64) (t : sM) (a0 : Int32) (a1 : Int32) (a2 : Int32), I g t → ∃ k r g1 o1 t1, f_L_combine (g, o) a0 a1 a2 = some (k, (g1, o1)) ∧ f_M_combine t a0 a1 a2 = some (r, t1) ∧ t1.1 = k ∧ (k = 0 → o1 (Int32.toNatClampNeg 0) = r) ∧ I g1 t1
def ag_linear (I : sK → sM → Prop) : Prop := ∀ (g : sK) (o : Nat → Int64) (t : sM) (a0 : Int32) (a1 : Int32) (a2 : Int32), I g t → ∃ k r g1 o1 t1, f_L_linear (g, o) a0 a1 a2 = some (k, (g1, o1)) ∧ f_M_linear t a0 a1 a2 = some (r, t1) ∧ t1.1 = k ∧ (k = 0 → o1 (Int32.toNatClampNeg 0) = r) ∧ I g1 t1
def ag_sign (I : sK → sM → Prop) : Prop := ∀ (g : sK) (o : Nat → Int64) (t : sM) (a0 : Int32) (a1 : Int64), I g t → ∃ k r g1 o1 t1, f_L_sign (g, o) a0 a1 = some (k, (g1, o1)) ∧ f_M_sign t a0 a1 = some (r, t1) ∧ t1.1 = k ∧ (k = 0 → o1 (Int32.toNatClampNeg 0) = r) ∧ I g1 t1
def ag_mark (I : sK → sM → Prop) : Prop := ∀ (g : sK) (t : sM), I g t → ∃ r g1 t1, f_K_mark g  = some (r, g1) ∧ f_M_mark t  = some (r, t1) ∧ I g1 t1
def ag_good (I : sK → sM → Prop) : Prop := ∀ (g : sK) (o : Nat → Int64) (t : sM) (a0 : Int32) (a1 : Int64) (a2 : Int32) (a3 : Int32), I g t → ∃ k r g1 o1 t1, f_L_good (g, o) a0 a1 a2 a3 = some (k, (g1, o1)) ∧ f_M_good t a0 a1 a2 a3 = some (r, t1) ∧ t1.1 = k ∧ (k = 0 → o1 (Int32.toNatClampNeg 0) = if r = 0 then 0 else 1) ∧ I g1 t1
def ag_recover (I : sK → sM → Prop) : Prop := ∀ (g : sK) (o : Nat → Int64) (t : sM) (a0 : Int32) (a1 : Int64) (a2 : Int32) (a3 : Int32) (a4 : Int32), I g t → ∃ k r g1 o1 t1, f_L_recover (g, o) a0 a1 a2 a3 a4 = some (k, (g1, o1)) ∧ f_M_recover t a0 a1 a2 a3 a4 = some (r, t1) ∧ t1.1 = k ∧ (k = 0 → o1 (Int32.toNatClampNeg 0) = r) ∧ I g1 t1
def ag_prove (I : sK → sM → Prop) : Prop := ∀ (g : sK) (o : Nat → Int64) (t : sM) (a0 : Int32) (a1 : Int64) (a2 : Int64), I g t → ∃ k r g1 o1 t1, f_L_prove (g, o) a0 a1 a2 = some (k, (g1, o1)) ∧ f_M_prove t a0 a1 a2 = some (r, t1) ∧ t1.1 = k ∧ (k = 0 → o1 (Int32.toNatClampNeg 0) = r) ∧ I g1 t1
def ag_holds (I : sK → sM → Prop) : Prop := ∀ (g : sK) (o : Nat → Int64) (t : sM) (a0 : Int32) (a1 : Int64) (a2 : Int32) (a3 : Int32), I g t → ∃ k r g1 o1 t1, f_L_holds (g, o) a0 a1 a2 a3 = some (k, (g1, o1)) ∧ f_M_holds t a0 a1 a2 a3 = some (r, t1) ∧ t1.1 = k ∧ (k = 0 → o1 (Int32.toNatClampNeg 0) = if r = 0 then 0 else 1) ∧ I g1 t1
def ag_bundle (I : sK → sM → Prop) : Prop := ∀ (g : sK) (o : Nat → Int64) (t : sM) (a0 : Int32) (a1 : Int64) (a2 : Int32) (a3 : Int32), I g t → ∃ k r g1 o1 t1, f_L_bundle (g, o) a0 a1 a2 a3 = some (k, (g1, o1)) ∧ f_M_bundle t a0 a1 a2 a3 = some (r, t1) ∧ t1.1 = k ∧ (k = 0 → o1 (Int32.toNatClampNeg 0) = Int32.toInt64 r) ∧ I g1 t1
def ag_right (I : sK → sM → Prop) : Prop := ∀ (g : sK) (t : sM) (a0 : Int64), I g t → ∃ r g1 t1, f_K_right g a0 = some (r, g1) ∧ f_M_right t a0 = some (r, t1) ∧ I g1 t1
def ag_agree (I : sK → sM → Prop) : Prop := ∀ (g : sK) (o : Nat → Int64) (t : sM) (a0 : Int32) (a1 : Int32), I g t → ∃ k r g1 o1 t1, f_L_agree (g, o) a0 a1 = some (k, (g1, o1)) ∧ f_M_agree t a0 a1 = some (r, t1) ∧ t1.1 = k ∧ (k = 0 → o1 (Int32.toNatClampNeg 0) = r) ∧ I g1 t1
def ag_written (I : sK → sM → Prop) : Prop := ∀ (g : sK) (o : Nat → Int64) (t : sM) (a0 : Int32) (a1 : Int32) (a2 : Int32), I g t → ∃ k r g1 o1 t1, f_L_written (g, o) a0 a1 a2 = some (k, (g1, o1)) ∧ f_M_written t a0 a1 a2 = some (r, t1) ∧ t1.1 = k ∧ (k = 0 → o1 (Int32.toNatClampNeg 0) = Int32.toInt64 r) ∧ I g1 t1
def ag_type (I : sK → sM → Prop) : Prop := ∀ (g : sK) (o : Nat → Int64) (t : sM) (a0 : Int32), I g t → ∃ k r g1 o1 t1, f_L_type (g, o) a0 = some (k, (g1, o1)) ∧ f_M_type t a0 = some (r, t1) ∧ t1.1 = k ∧ (k = 0 → o1 (Int32.toNatClampNeg 0) = Int32.toInt64 r) ∧ I g1 t1
def ag_read (I : sK → sM → Prop) : Prop := ∀ (g : sK) (t : sM), I g t → ∃ r g1 t1, f_K_read g  = some (r, g1) ∧ f_M_read t  = some (r, t1) ∧ I g1 t1
set_option maxHeartbeats 4000000 in
set_option maxRecDepth 100000 in
theorem lw_secret {p : Program} {l : Launch} {e : Env} {s : State} {m : MethodId} {below : List Frame} {meth : Method} {c : Code} {b L : Nat} {xs : Nat → Int32} {D : va_G} {A : Nat → Nat} {cc : Nat → ClassId} {B : Nat → Nat} {dd : Nat → ClassId} {AA : Nat → Prop} {Q : State → Prop} (C0 : lc p l s m meth c b L xs D cc dd AA) {I : sK → sM → Prop} (hAG : ag_secret I) {g : sK} {o : Nat → Int64} {t : sM} (hI : I g t) {H : Heap} {locs : List Loc} (hP : va_P D vwC (wL A cc B dd g o t) H) (hD : va_D AA (wL A cc B dd g o t)) (hS : va_S AA s.heap H locs) {ls : Array Slot} {j : Nat} (hj : j + 7 ≤ L)
    (hl : lv_has ls 8 [(0, .ref b), (1, .ref (A 0)), (2, .ref (B 0)), (3, .ref (A 10)), (4, .int (nI j))]) {n0 k0 : Nat} (hn : n0 + 1 ≤ 1052) (hk : k0 + 6 ≤ 8410)
    (kont : ∀ (g : sK) (o : Nat → Int64) (t : sM) (H : Heap) (locs : List Loc) (ls : Array Slot), I g t → va_P D vwC (wL A cc B dd g o t) H → va_D AA (wL A cc B dd g o t) → va_S AA s.heap H locs → lv_has ls 8 [(0, .ref b), (1, .ref (A 0)), (2, .ref (B 0)), (3, .ref (A 10)), (4, .int (nI j))] → W p l e room_1 s m #[Value.ref b] below meth c H locs (n0 + 1) (k0 + 6) Q (F0 m 1665 ls [])) :
    W p l e room_1 s m #[Value.ref b] below meth c H locs n0 k0 Q (F0 m 132 ls []) := by
  obtain ⟨hx, hb, hml, hown, hts, hXs, hbl, hbA, hA, hN, hX, hC, hZ, hK, hlocks, hl0, hL⟩ := C0
  have hw : ∀ w ∈ wa, w.before _ s = true := fun w h => hts w (List.mem_cons_of_mem _ h)
  have hn0 : n0 + 0 ≤ 1052 := by omega
  have hk0 : k0 + 0 ≤ 8410 := by omega
  refine lv_aload_n hx hb d_L_law_132 rfl (lv_at hl 1 rfl) ?_
  refine lv_aload_n hx hb d_L_law_133 rfl (lv_at hl 0 rfl) ?_
  refine lv_iload hx hb d_L_law_134 (lv_at hl 4 rfl) ?_
  refine lv_iconst (v := 1) hx hb d_L_law_136 (by decide) ?_
  refine lv_iadd hx hb d_L_law_137 ?_
  refine va_sld hx hb hXs hbl hbA hS (li_1 hj hL) d_L_law_138 ?_
  refine lv_aload_n hx hb d_L_law_139 rfl (lv_at hl 0 rfl) ?_
  refine lv_iload hx hb d_L_law_140 (lv_at hl 4 rfl) ?_
  refine lv_iconst (v := 2) hx hb d_L_law_142 (by decide) ?_
  refine lv_iadd hx hb d_L_law_143 ?_
  refine va_sld hx hb hXs hbl hbA hS (li_2 hj hL) d_L_law_144 ?_
  refine lv_aload_n hx hb d_L_law_145 rfl (lv_at hl 3 rfl) ?_
  obtain ⟨k1, r1, g1, o1, t1, hf1, hf2, hth, hou, hI⟩ := hAG g o t (xs (Int32.toNatClampNeg (nI j + 1))) (xs (Int32.toNatClampNeg (nI j + 2))) hI
  have hPc := hP.sub (ws' := wX A cc (g, o)) [0, 1, 2, 3, 4, 5, 6, 7, 8, 9, 10] rfl
  have hDc := hD.sub (ws' := wX A cc (g, o)) [0, 1, 2, 3, 4, 5, 6, 7, 8, 9, 10] (by decide) rfl
  have hKc := hK.sub (tys' := kX cc) [0, 1, 2, 3, 4, 5, 6, 7] rfl
  have hFc := va_free (wc := wX A cc (g, o)) hD hS hA [0, 1, 2, 3, 4, 5, 6, 7, 8, 9, 10] rfl
  refine va_calli (vx_runSW (As := [.ref (A 0), .int (xs (Int32.toNatClampNeg (nI j + 1))), .int (xs (Int32.toNatClampNeg (nI j + 2))), .ref (A 10)]) (rest := []) ⟨hx, hb, hml, hown, hts⟩ (k_L_secret l hl0 D A cc (g, o) (xs (Int32.toNatClampNeg (nI j + 1))) (xs (Int32.toNatClampNeg (nI j + 2))) _ (k1, (g1, o1)) hf1) (vx_cwSW 4 hts (ga_S ww_216 ww_217 ww_0 ww_218) rfl rfl rfl (by decide +kernel) ⟨by decide, by decide⟩) (pwl_pre hPc hKc hDc hN hX hZ hC hS hFc) rfl rfl hl.1 rfl (lv_room (Nat.le_of_ble_eq_true rfl)) d_L_law_146 ⟨hn, hk⟩) hS (fun q _ h => hFc q h) hFc (fun r9 u9 t9 H locs ht hvm hp hB hz1 hk1 hS => ?_)
  obtain ⟨hp1, hp2⟩ := Prod.mk.inj hp.symm
  subst hp1
  subst hp2
  obtain ⟨hP1, hK1, hD1⟩ := hB
  rw [ht] at hP1
  obtain ⟨hP, hD⟩ := va_join (wr := wM B dd t) (w1 := wX A cc (g1, o1)) hP hD [0, 1, 2, 3, 4, 5, 6, 7, 8, 9, 10] [11, 12, 13, 14, 15, 16, 17, 18, 19] rfl rfl (by decide) (by decide) hk1 hFc hP1 hD1
  have hP := hP.sub (ws' := wL A cc B dd g1 o1 t) [9, 10, 11, 12, 13, 14, 15, 16, 17, 18, 19, 0, 1, 2, 3, 4, 5, 6, 7, 8] rfl
  have hD := hD.sub (ws' := wL A cc B dd g1 o1 t) [9, 10, 11, 12, 13, 14, 15, 16, 17, 18, 19, 0, 1, 2, 3, 4, 5, 6, 7, 8] (by decide) rfl
  refine lv_istore hx hb d_L_law_149 hl (by decide) (lv' := [(5, .int k1), (0, .ref b), (1, .ref (A 0)), (2, .ref (B 0)), (3, .ref (A 10)), (4, .int (nI j))]) rfl (fun ls hl => ?_)
  refine lv_aload_n hx hb d_L_law_151 rfl (lv_at hl 3 rfl) ?_
  refine lv_aload_n hx hb d_L_law_152 rfl (lv_at hl 1 rfl) ?_
  refine lv_iload hx hb d_L_law_153 (lv_at hl 5 rfl) ?_
  refine lv_iconst (v := 1) hx hb d_L_law_155 (by decide) ?_
  refine lv_iadd hx hb d_L_law_156 ?_
  refine va_sld hx hb hXs hbl hbA hS (li_1 hj hL) d_L_law_157 ?_
  refine lv_aload_n hx hb d_L_law_158 rfl (lv_at hl 1 rfl) ?_
  refine lv_iload hx hb d_L_law_159 (lv_at hl 5 rfl) ?_
  refine lv_iconst (v := 2) hx hb d_L_law_161 (by decide) ?_
  refine lv_iadd hx hb d_L_law_162 ?_
  refine va_sld hx hb hXs hbl hbA hS (li_2 hj hL) d_L_law_163 ?_
  have hPc := hP.sub (ws' := wM B dd t) [11, 12, 13, 14, 15, 16, 17, 18, 19] rfl
  have hDc := hD.sub (ws' := wM B dd t) [11, 12, 13, 14, 15, 16, 17, 18, 19] (by decide) rfl
  have hKc := hK.sub (tys' := kM dd) [8, 9, 10, 11, 12, 13, 14, 15] rfl
  have hFc := va_free (wc := wM B dd t) hD hS hA [11, 12, 13, 14, 15, 16, 17, 18, 19] rfl
  refine va_calll (va_runV (As := [.int (xs (Int32.toNatClampNeg (nI j + 1))), .int (xs (Int32.toNatClampNeg (nI j + 2)))]) (rest := []) ⟨hx, hb, hml, hown, hts⟩ (k_M_secret l D B dd t (xs (Int32.toNatClampNeg (nI j + 1))) (xs (Int32.toNatClampNeg (nI j + 2))) _ (r1, t1) hf2) (cwV 2 hts (ga_V ww_578 ww_579 ww_580 ww_4 ww_581) rfl rfl rfl (by decide +kernel) ⟨by decide, by decide⟩) (pw_pre (q0 := 0) (ci := 3) hPc hKc hDc hN rfl rfl) rfl rfl hl.1 rfl (lv_room (Nat.le_of_ble_eq_true rfl)) d_L_law_164 ⟨hn, hk⟩) hS (fun q _ h => hFc q h) hFc (fun r9 u9 t9 H locs ht hvm hp hB hz1 hk1 hS => ?_)
  obtain ⟨hp1, hp2⟩ := Prod.mk.inj hp.symm
  subst hp1
  subst hp2
  obtain ⟨hP1, hK1, hD1⟩ := hB
  rw [ht] at hP1
  obtain ⟨hP, hD⟩ := va_join (wr := wX A cc (g1, o1)) (w1 := wM B dd t1) hP hD [11, 12, 13, 14, 15, 16, 17, 18, 19] [0, 1, 2, 3, 4, 5, 6, 7, 8, 9, 10] rfl rfl (by decide) (by decide) hk1 hFc hP1 hD1
  have hP : va_P D vwC (wL A cc B dd g1 o1 t1) H := hP
  have hD : va_D AA (wL A cc B dd g1 o1 t1) := hD
  refine lv_lstore hx hb d_L_law_167 hl (by decide) (lv' := [(6, .long r1), (5, .int k1), (0, .ref b), (1, .ref (A 0)), (2, .ref (B 0)), (3, .ref (A 10)), (4, .int (nI j))]) rfl (fun ls hl => ?_)
  refine lv_aload_n hx hb d_L_law_169 rfl (lv_at hl 4 rfl) ?_
  have hPc := hP.sub (ws' := wM B dd t1) [11, 12, 13, 14, 15, 16, 17, 18, 19] rfl
  have hDc := hD.sub (ws' := wM B dd t1) [11, 12, 13, 14, 15, 16, 17, 18, 19] (by decide) rfl
  have hKc := hK.sub (tys' := kM dd) [8, 9, 10, 11, 12, 13, 14, 15] rfl
  have hFc := va_free (wc := wM B dd t1) hD hS hA [11, 12, 13, 14, 15, 16, 17, 18, 19] rfl
  refine va_calli (va_runV (As := []) (rest := []) ⟨hx, hb, hml, hown, hts⟩ (k_M_thrown l D B dd t1 _ (t1.1, t1) rfl) (cwV 0 hts (ga_V ww_574 ww_575 ww_576 ww_4 ww_577) rfl rfl rfl (by decide +kernel) ⟨by decide, by decide⟩) (pw_pre (q0 := 0) (ci := 3) hPc hKc hDc hN rfl rfl) rfl rfl hl.1 rfl (lv_room (Nat.le_of_ble_eq_true rfl)) d_L_law_170 ⟨hn, hk⟩) hS (fun q _ h => hFc q h) hFc (fun r9 u9 t9 H locs ht hvm hp hB hz1 hk1 hS => ?_)
  obtain ⟨hp1, hp2⟩ := Prod.mk.inj hp.symm
  subst hp1
  subst hp2
  obtain ⟨hP1, hK1, hD1⟩ := hB
  rw [ht] at hP1
  obtain ⟨hP, hD⟩ := va_join (wr := wX A cc (g1, o1)) (w1 := wM B dd t1) hP hD [11, 12, 13, 14, 15, 16, 17, 18, 19] [0, 1, 2, 3, 4, 5, 6, 7, 8, 9, 10] rfl rfl (by decide) (by decide) hk1 hFc hP1 hD1
  have hP : va_P D vwC (wL A cc B dd g1 o1 t1) H := hP
  have hD : va_D AA (wL A cc B dd g1 o1 t1) := hD
  refine lv_iload hx hb d_L_law_173 (lv_at hl 1 rfl) ?_
  refine lv_icmp_eq hx hb d_L_law_175 (tgt := 180) (by decide) (fun h9 => ?_) (fun h9 => absurd hth h9)
  refine lv_iload hx hb d_L_law_180 (lv_at hl 1 rfl) ?_
  have w1 : W p l e room_1 s m #[Value.ref b] below meth c H locs (n0 + 1) (k0 + 6) Q (F0 m 196 ls []) := by
    refine lv_goto hx hb d_L_law_196 (tgt := 1665) (by decide) ?_
    exact kont g1 o1 t1 _ _ ls hI hP hD hS (lv_sub hl [2, 3, 4, 5, 6] rfl)
  refine lv_if_ne hx hb d_L_law_182 (tgt := 196) (by decide) (fun h9 => w1) (fun h9 => ?_)
  refine lv_aload_n hx hb d_L_law_185 rfl (lv_at hl 5 rfl) ?_
  refine lv_iconst (v := 0) hx hb d_L_law_186 (by decide) ?_
  refine va_lald hx hb hK hP 10 7 rfl rfl (show vp_in 0 1 by unfold vp_in; decide) d_L_law_187 ?_
  refine lv_lload hx hb d_L_law_188 (lv_at hl 0 rfl) ?_
  refine W.lcmp hx hb d_L_law_190 ?_
  exact lv_if_eq hx hb d_L_law_191 (tgt := 196) (by decide) (fun _ => w1) (fun h8 => absurd ((lg_cmp_eq _ _).mpr (hou h9)) h8)
set_option maxHeartbeats 4000000 in
set_option maxRecDepth 100000 in
theorem lw_open {p : Program} {l : Launch} {e : Env} {s : State} {m : MethodId} {below : List Frame} {meth : Method} {c : Code} {b L : Nat} {xs : Nat → Int32} {D : va_G} {A : Nat → Nat} {cc : Nat → ClassId} {B : Nat → Nat} {dd : Nat → ClassId} {AA : Nat → Prop} {Q : State → Prop} (C0 : lc p l s m meth c b L xs D cc dd AA) {I : sK → sM → Prop} (hAG : ag_open I) {g : sK} {o : Nat → Int64} {t : sM} (hI : I g t) {H : Heap} {locs : List Loc} (hP : va_P D vwC (wL A cc B dd g o t) H) (hD : va_D AA (wL A cc B dd g o t)) (hS : va_S AA s.heap H locs) {ls : Array Slot} {j : Nat} (hj : j + 7 ≤ L)
    (hl : lv_has ls 8 [(0, .ref b), (1, .ref (A 0)), (2, .ref (B 0)), (3, .ref (A 10)), (4, .int (nI j))]) {n0 k0 : Nat} (hn : n0 + 1 ≤ 1052) (hk : k0 + 6 ≤ 8410)
    (kont : ∀ (g : sK) (o : Nat → Int64) (t : sM) (H : Heap) (locs : List Loc) (ls : Array Slot), I g t → va_P D vwC (wL A cc B dd g o t) H → va_D AA (wL A cc B dd g o t) → va_S AA s.heap H locs → lv_has ls 8 [(0, .ref b), (1, .ref (A 0)), (2, .ref (B 0)), (3, .ref (A 10)), (4, .int (nI j))] → W p l e room_1 s m #[Value.ref b] below meth c H locs (n0 + 1) (k0 + 6) Q (F0 m 1665 ls [])) :
    W p l e room_1 s m #[Value.ref b] below meth c H locs n0 k0 Q (F0 m 199 ls []) := by
  obtain ⟨hx, hb, hml, hown, hts, hXs, hbl, hbA, hA, hN, hX, hC, hZ, hK, hlocks, hl0, hL⟩ := C0
  have hw : ∀ w ∈ wa, w.before _ s = true := fun w h => hts w (List.mem_cons_of_mem _ h)
  have hn0 : n0 + 0 ≤ 1052 := by omega
  have hk0 : k0 + 0 ≤ 8410 := by omega
  refine lv_aload_n hx hb d_L_law_199 rfl (lv_at hl 1 rfl) ?_
  refine lv_aload_n hx hb d_L_law_200 rfl (lv_at hl 0 rfl) ?_
  refine lv_iload hx hb d_L_law_201 (lv_at hl 4 rfl) ?_
  refine lv_iconst (v := 1) hx hb d_L_law_203 (by decide) ?_
  refine lv_iadd hx hb d_L_law_204 ?_
  refine va_sld hx hb hXs hbl hbA hS (li_1 hj hL) d_L_law_205 ?_
  refine lv_aload_n hx hb d_L_law_206 rfl (lv_at hl 0 rfl) ?_
  refine lv_iload hx hb d_L_law_207 (lv_at hl 4 rfl) ?_
  refine lv_iconst (v := 2) hx hb d_L_law_209 (by decide) ?_
  refine lv_iadd hx hb d_L_law_210 ?_
  refine va_sld hx hb hXs hbl hbA hS (li_2 hj hL) d_L_law_211 ?_
  refine lv_i2l (v := Int32.toInt64 (xs (Int32.toNatClampNeg (nI j + 2)))) hx hb d_L_law_212 rfl ?_
  refine lv_bipush (v := 32) hx hb d_L_law_213 (by decide) ?_
  refine lv_lshl (v := (Int32.toInt64 (xs (Int32.toNatClampNeg (nI j + 2)))) <<< ((Int32.toInt64 32) &&& 63)) hx hb d_L_law_215 rfl ?_
  refine lv_aload_n hx hb d_L_law_216 rfl (lv_at hl 0 rfl) ?_
  refine lv_iload hx hb d_L_law_217 (lv_at hl 4 rfl) ?_
  refine lv_iconst (v := 3) hx hb d_L_law_219 (by decide) ?_
  refine lv_iadd hx hb d_L_law_220 ?_
  refine va_sld hx hb hXs hbl hbA hS (li_3 hj hL) d_L_law_221 ?_
  refine lv_i2l (v := Int32.toInt64 (xs (Int32.toNatClampNeg (nI j + 3)))) hx hb d_L_law_222 rfl ?_
  refine lv_ldc2 (v := 4294967295) hx hb hown (hw _ ww_767) d_L_law_223 ?_
  refine lv_land hx hb d_L_law_226 ?_
  refine lv_lor hx hb d_L_law_227 ?_
  obtain ⟨k1, g1, o1, t1, hf1, hf2, hth, hI⟩ := hAG g o t (xs (Int32.toNatClampNeg (nI j + 1))) (((Int32.toInt64 (xs (Int32.toNatClampNeg (nI j + 2)))) <<< ((Int32.toInt64 32) &&& 63)) ||| ((Int32.toInt64 (xs (Int32.toNatClampNeg (nI j + 3)))) &&& 4294967295)) hI
  have hPc := hP.sub (ws' := wX A cc (g, o)) [0, 1, 2, 3, 4, 5, 6, 7, 8, 9, 10] rfl
  have hDc := hD.sub (ws' := wX A cc (g, o)) [0, 1, 2, 3, 4, 5, 6, 7, 8, 9, 10] (by decide) rfl
  have hKc := hK.sub (tys' := kX cc) [0, 1, 2, 3, 4, 5, 6, 7] rfl
  have hFc := va_free (wc := wX A cc (g, o)) hD hS hA [0, 1, 2, 3, 4, 5, 6, 7, 8, 9, 10] rfl
  refine va_calli (vx_runSW (As := [.ref (A 0), .int (xs (Int32.toNatClampNeg (nI j + 1))), .long (((Int32.toInt64 (xs (Int32.toNatClampNeg (nI j + 2)))) <<< ((Int32.toInt64 32) &&& 63)) ||| ((Int32.toInt64 (xs (Int32.toNatClampNeg (nI j + 3)))) &&& 4294967295))]) (rest := []) ⟨hx, hb, hml, hown, hts⟩ (k_L_open l hl0 D A cc (g, o) (xs (Int32.toNatClampNeg (nI j + 1))) (((Int32.toInt64 (xs (Int32.toNatClampNeg (nI j + 2)))) <<< ((Int32.toInt64 32) &&& 63)) ||| ((Int32.toInt64 (xs (Int32.toNatClampNeg (nI j + 3)))) &&& 4294967295)) _ (k1, (g1, o1)) hf1) (vx_cwSW 3 hts (ga_S ww_320 ww_321 ww_0 ww_322) rfl rfl rfl (by decide +kernel) ⟨by decide, by decide⟩) (pwl_pre hPc hKc hDc hN hX hZ hC hS hFc) rfl rfl hl.1 rfl (lv_room (Nat.le_of_ble_eq_true rfl)) d_L_law_228 ⟨hn, hk⟩) hS (fun q _ h => hFc q h) hFc (fun r9 u9 t9 H locs ht hvm hp hB hz1 hk1 hS => ?_)
  obtain ⟨hp1, hp2⟩ := Prod.mk.inj hp.symm
  subst hp1
  subst hp2
  obtain ⟨hP1, hK1, hD1⟩ := hB
  rw [ht] at hP1
  obtain ⟨hP, hD⟩ := va_join (wr := wM B dd t) (w1 := wX A cc (g1, o1)) hP hD [0, 1, 2, 3, 4, 5, 6, 7, 8, 9, 10] [11, 12, 13, 14, 15, 16, 17, 18, 19] rfl rfl (by decide) (by decide) hk1 hFc hP1 hD1
  have hP := hP.sub (ws' := wL A cc B dd g1 o1 t) [9, 10, 11, 12, 13, 14, 15, 16, 17, 18, 19, 0, 1, 2, 3, 4, 5, 6, 7, 8] rfl
  have hD := hD.sub (ws' := wL A cc B dd g1 o1 t) [9, 10, 11, 12, 13, 14, 15, 16, 17, 18, 19, 0, 1, 2, 3, 4, 5, 6, 7, 8] (by decide) rfl
  refine lv_istore hx hb d_L_law_231 hl (by decide) (lv' := [(5, .int k1), (0, .ref b), (1, .ref (A 0)), (2, .ref (B 0)), (3, .ref (A 10)), (4, .int (nI j))]) rfl (fun ls hl => ?_)
  refine lv_aload_n hx hb d_L_law_233 rfl (lv_at hl 3 rfl) ?_
  refine lv_aload_n hx hb d_L_law_234 rfl (lv_at hl 1 rfl) ?_
  refine lv_iload hx hb d_L_law_235 (lv_at hl 5 rfl) ?_
  refine lv_iconst (v := 1) hx hb d_L_law_237 (by decide) ?_
  refine lv_iadd hx hb d_L_law_238 ?_
  refine va_sld hx hb hXs hbl hbA hS (li_1 hj hL) d_L_law_239 ?_
  refine lv_aload_n hx hb d_L_law_240 rfl (lv_at hl 1 rfl) ?_
  refine lv_iload hx hb d_L_law_241 (lv_at hl 5 rfl) ?_
  refine lv_iconst (v := 2) hx hb d_L_law_243 (by decide) ?_
  refine lv_iadd hx hb d_L_law_244 ?_
  refine va_sld hx hb hXs hbl hbA hS (li_2 hj hL) d_L_law_245 ?_
  refine lv_i2l (v := Int32.toInt64 (xs (Int32.toNatClampNeg (nI j + 2)))) hx hb d_L_law_246 rfl ?_
  refine lv_bipush (v := 32) hx hb d_L_law_247 (by decide) ?_
  refine lv_lshl (v := (Int32.toInt64 (xs (Int32.toNatClampNeg (nI j + 2)))) <<< ((Int32.toInt64 32) &&& 63)) hx hb d_L_law_249 rfl ?_
  refine lv_aload_n hx hb d_L_law_250 rfl (lv_at hl 1 rfl) ?_
  refine lv_iload hx hb d_L_law_251 (lv_at hl 5 rfl) ?_
  refine lv_iconst (v := 3) hx hb d_L_law_253 (by decide) ?_
  refine lv_iadd hx hb d_L_law_254 ?_
  refine va_sld hx hb hXs hbl hbA hS (li_3 hj hL) d_L_law_255 ?_
  refine lv_i2l (v := Int32.toInt64 (xs (Int32.toNatClampNeg (nI j + 3)))) hx hb d_L_law_256 rfl ?_
  refine lv_ldc2 (v := 4294967295) hx hb hown (hw _ ww_767) d_L_law_257 ?_
  refine lv_land hx hb d_L_law_260 ?_
  refine lv_lor hx hb d_L_law_261 ?_
  have hPc := hP.sub (ws' := wM B dd t) [11, 12, 13, 14, 15, 16, 17, 18, 19] rfl
  have hDc := hD.sub (ws' := wM B dd t) [11, 12, 13, 14, 15, 16, 17, 18, 19] (by decide) rfl
  have hKc := hK.sub (tys' := kM dd) [8, 9, 10, 11, 12, 13, 14, 15] rfl
  have hFc := va_free (wc := wM B dd t) hD hS hA [11, 12, 13, 14, 15, 16, 17, 18, 19] rfl
  refine va_callv (va_runV (As := [.int (xs (Int32.toNatClampNeg (nI j + 1))), .long (((Int32.toInt64 (xs (Int32.toNatClampNeg (nI j + 2)))) <<< ((Int32.toInt64 32) &&& 63)) ||| ((Int32.toInt64 (xs (Int32.toNatClampNeg (nI j + 3)))) &&& 4294967295))]) (rest := []) ⟨hx, hb, hml, hown, hts⟩ (k_M_open l D B dd t (xs (Int32.toNatClampNeg (nI j + 1))) (((Int32.toInt64 (xs (Int32.toNatClampNeg (nI j + 2)))) <<< ((Int32.toInt64 32) &&& 63)) ||| ((Int32.toInt64 (xs (Int32.toNatClampNeg (nI j + 3)))) &&& 4294967295)) _ t1 hf2) (cwV 2 hts (ga_V ww_619 ww_620 ww_621 ww_4 ww_622) rfl rfl rfl (by decide +kernel) ⟨by decide, by decide⟩) (pw_pre (q0 := 0) (ci := 3) hPc hKc hDc hN rfl rfl) rfl rfl hl.1 rfl (lv_room (Nat.le_of_ble_eq_true rfl)) d_L_law_262 ⟨hn, hk⟩) hS (fun q _ h => hFc q h) hFc (fun u9 t9 H locs ht hvm hp hB hz1 hk1 hS => ?_)
  have hp2 : t1 = u9 := hp.symm
  subst hp2
  obtain ⟨hP1, hK1, hD1⟩ := hB
  rw [ht] at hP1
  obtain ⟨hP, hD⟩ := va_join (wr := wX A cc (g1, o1)) (w1 := wM B dd t1) hP hD [11, 12, 13, 14, 15, 16, 17, 18, 19] [0, 1, 2, 3, 4, 5, 6, 7, 8, 9, 10] rfl rfl (by decide) (by decide) hk1 hFc hP1 hD1
  have hP : va_P D vwC (wL A cc B dd g1 o1 t1) H := hP
  have hD : va_D AA (wL A cc B dd g1 o1 t1) := hD
  refine lv_aload_n hx hb d_L_law_265 rfl (lv_at hl 3 rfl) ?_
  have hPc := hP.sub (ws' := wM B dd t1) [11, 12, 13, 14, 15, 16, 17, 18, 19] rfl
  have hDc := hD.sub (ws' := wM B dd t1) [11, 12, 13, 14, 15, 16, 17, 18, 19] (by decide) rfl
  have hKc := hK.sub (tys' := kM dd) [8, 9, 10, 11, 12, 13, 14, 15] rfl
  have hFc := va_free (wc := wM B dd t1) hD hS hA [11, 12, 13, 14, 15, 16, 17, 18, 19] rfl
  refine va_calli (va_runV (As := []) (rest := []) ⟨hx, hb, hml, hown, hts⟩ (k_M_thrown l D B dd t1 _ (t1.1, t1) rfl) (cwV 0 hts (ga_V ww_574 ww_575 ww_576 ww_4 ww_577) rfl rfl rfl (by decide +kernel) ⟨by decide, by decide⟩) (pw_pre (q0 := 0) (ci := 3) hPc hKc hDc hN rfl rfl) rfl rfl hl.1 rfl (lv_room (Nat.le_of_ble_eq_true rfl)) d_L_law_266 ⟨hn, hk⟩) hS (fun q _ h => hFc q h) hFc (fun r9 u9 t9 H locs ht hvm hp hB hz1 hk1 hS => ?_)
  obtain ⟨hp1, hp2⟩ := Prod.mk.inj hp.symm
  subst hp1
  subst hp2
  obtain ⟨hP1, hK1, hD1⟩ := hB
  rw [ht] at hP1
  obtain ⟨hP, hD⟩ := va_join (wr := wX A cc (g1, o1)) (w1 := wM B dd t1) hP hD [11, 12, 13, 14, 15, 16, 17, 18, 19] [0, 1, 2, 3, 4, 5, 6, 7, 8, 9, 10] rfl rfl (by decide) (by decide) hk1 hFc hP1 hD1
  have hP : va_P D vwC (wL A cc B dd g1 o1 t1) H := hP
  have hD : va_D AA (wL A cc B dd g1 o1 t1) := hD
  refine lv_iload hx hb d_L_law_269 (lv_at hl 0 rfl) ?_
  refine lv_icmp_eq hx hb d_L_law_271 (tgt := 276) (by decide) (fun h9 => ?_) (fun h9 => absurd hth h9)
  refine lv_goto hx hb d_L_law_276 (tgt := 1665) (by decide) ?_
  exact kont g1 o1 t1 _ _ ls hI hP hD hS (lv_sub hl [1, 2, 3, 4, 5] rfl)
set_option maxHeartbeats 4000000 in
set_option maxRecDepth 100000 in
theorem lw_code {p : Program} {l : Launch} {e : Env} {s : State} {m : MethodId} {below : List Frame} {meth : Method} {c : Code} {b L : Nat} {xs : Nat → Int32} {D : va_G} {A : Nat → Nat} {cc : Nat → ClassId} {B : Nat → Nat} {dd : Nat → ClassId} {AA : Nat → Prop} {Q : State → Prop} (C0 : lc p l s m meth c b L xs D cc dd AA) {I : sK → sM → Prop} (hAG : ag_code I) {g : sK} {o : Nat → Int64} {t : sM} (hI : I g t) {H : Heap} {locs : List Loc} (hP : va_P D vwC (wL A cc B dd g o t) H) (hD : va_D AA (wL A cc B dd g o t)) (hS : va_S AA s.heap H locs) {ls : Array Slot} {j : Nat} (hj : j + 7 ≤ L)
    (hl : lv_has ls 8 [(0, .ref b), (1, .ref (A 0)), (2, .ref (B 0)), (3, .ref (A 10)), (4, .int (nI j))]) {n0 k0 : Nat} (hn : n0 + 1 ≤ 1052) (hk : k0 + 6 ≤ 8410)
    (kont : ∀ (g : sK) (o : Nat → Int64) (t : sM) (H : Heap) (locs : List Loc) (ls : Array Slot), I g t → va_P D vwC (wL A cc B dd g o t) H → va_D AA (wL A cc B dd g o t) → va_S AA s.heap H locs → lv_has ls 8 [(0, .ref b), (1, .ref (A 0)), (2, .ref (B 0)), (3, .ref (A 10)), (4, .int (nI j))] → W p l e room_1 s m #[Value.ref b] below meth c H locs (n0 + 1) (k0 + 6) Q (F0 m 1665 ls [])) :
    W p l e room_1 s m #[Value.ref b] below meth c H locs n0 k0 Q (F0 m 279 ls []) := by
  obtain ⟨hx, hb, hml, hown, hts, hXs, hbl, hbA, hA, hN, hX, hC, hZ, hK, hlocks, hl0, hL⟩ := C0
  have hw : ∀ w ∈ wa, w.before _ s = true := fun w h => hts w (List.mem_cons_of_mem _ h)
  have hn0 : n0 + 0 ≤ 1052 := by omega
  have hk0 : k0 + 0 ≤ 8410 := by omega
  refine lv_aload_n hx hb d_L_law_279 rfl (lv_at hl 1 rfl) ?_
  refine lv_aload_n hx hb d_L_law_280 rfl (lv_at hl 0 rfl) ?_
  refine lv_iload hx hb d_L_law_281 (lv_at hl 4 rfl) ?_
  refine lv_iconst (v := 1) hx hb d_L_law_283 (by decide) ?_
  refine lv_iadd hx hb d_L_law_284 ?_
  refine va_sld hx hb hXs hbl hbA hS (li_1 hj hL) d_L_law_285 ?_
  refine lv_aload_n hx hb d_L_law_286 rfl (lv_at hl 3 rfl) ?_
  obtain ⟨k1, r1, g1, o1, t1, hf1, hf2, hth, hou, hI⟩ := hAG g o t (xs (Int32.toNatClampNeg (nI j + 1))) hI
  have hPc := hP.sub (ws' := wX A cc (g, o)) [0, 1, 2, 3, 4, 5, 6, 7, 8, 9, 10] rfl
  have hDc := hD.sub (ws' := wX A cc (g, o)) [0, 1, 2, 3, 4, 5, 6, 7, 8, 9, 10] (by decide) rfl
  have hKc := hK.sub (tys' := kX cc) [0, 1, 2, 3, 4, 5, 6, 7] rfl
  have hFc := va_free (wc := wX A cc (g, o)) hD hS hA [0, 1, 2, 3, 4, 5, 6, 7, 8, 9, 10] rfl
  refine va_calli (vx_runSW (As := [.ref (A 0), .int (xs (Int32.toNatClampNeg (nI j + 1))), .ref (A 10)]) (rest := []) ⟨hx, hb, hml, hown, hts⟩ (k_L_code l hl0 D A cc (g, o) (xs (Int32.toNatClampNeg (nI j + 1))) _ (k1, (g1, o1)) hf1) (vx_cwSW 3 hts (ga_S ww_331 ww_332 ww_0 ww_333) rfl rfl rfl (by decide +kernel) ⟨by decide, by decide⟩) (pwl_pre hPc hKc hDc hN hX hZ hC hS hFc) rfl rfl hl.1 rfl (lv_room (Nat.le_of_ble_eq_true rfl)) d_L_law_287 ⟨hn, hk⟩) hS (fun q _ h => hFc q h) hFc (fun r9 u9 t9 H locs ht hvm hp hB hz1 hk1 hS => ?_)
  obtain ⟨hp1, hp2⟩ := Prod.mk.inj hp.symm
  subst hp1
  subst hp2
  obtain ⟨hP1, hK1, hD1⟩ := hB
  rw [ht] at hP1
  obtain ⟨hP, hD⟩ := va_join (wr := wM B dd t) (w1 := wX A cc (g1, o1)) hP hD [0, 1, 2, 3, 4, 5, 6, 7, 8, 9, 10] [11, 12, 13, 14, 15, 16, 17, 18, 19] rfl rfl (by decide) (by decide) hk1 hFc hP1 hD1
  have hP := hP.sub (ws' := wL A cc B dd g1 o1 t) [9, 10, 11, 12, 13, 14, 15, 16, 17, 18, 19, 0, 1, 2, 3, 4, 5, 6, 7, 8] rfl
  have hD := hD.sub (ws' := wL A cc B dd g1 o1 t) [9, 10, 11, 12, 13, 14, 15, 16, 17, 18, 19, 0, 1, 2, 3, 4, 5, 6, 7, 8] (by decide) rfl
  refine lv_istore hx hb d_L_law_290 hl (by decide) (lv' := [(5, .int k1), (0, .ref b), (1, .ref (A 0)), (2, .ref (B 0)), (3, .ref (A 10)), (4, .int (nI j))]) rfl (fun ls hl => ?_)
  refine lv_aload_n hx hb d_L_law_292 rfl (lv_at hl 3 rfl) ?_
  refine lv_aload_n hx hb d_L_law_293 rfl (lv_at hl 1 rfl) ?_
  refine lv_iload hx hb d_L_law_294 (lv_at hl 5 rfl) ?_
  refine lv_iconst (v := 1) hx hb d_L_law_296 (by decide) ?_
  refine lv_iadd hx hb d_L_law_297 ?_
  refine va_sld hx hb hXs hbl hbA hS (li_1 hj hL) d_L_law_298 ?_
  have hPc := hP.sub (ws' := wM B dd t) [11, 12, 13, 14, 15, 16, 17, 18, 19] rfl
  have hDc := hD.sub (ws' := wM B dd t) [11, 12, 13, 14, 15, 16, 17, 18, 19] (by decide) rfl
  have hKc := hK.sub (tys' := kM dd) [8, 9, 10, 11, 12, 13, 14, 15] rfl
  have hFc := va_free (wc := wM B dd t) hD hS hA [11, 12, 13, 14, 15, 16, 17, 18, 19] rfl
  refine va_calll (va_runV (As := [.int (xs (Int32.toNatClampNeg (nI j + 1)))]) (rest := []) ⟨hx, hb, hml, hown, hts⟩ (k_M_code l D B dd t (xs (Int32.toNatClampNeg (nI j + 1))) _ (r1, t1) hf2) (cwV 1 hts (ga_V ww_635 ww_636 ww_637 ww_4 ww_638) rfl rfl rfl (by decide +kernel) ⟨by decide, by decide⟩) (pw_pre (q0 := 0) (ci := 3) hPc hKc hDc hN rfl rfl) rfl rfl hl.1 rfl (lv_room (Nat.le_of_ble_eq_true rfl)) d_L_law_299 ⟨hn, hk⟩) hS (fun q _ h => hFc q h) hFc (fun r9 u9 t9 H locs ht hvm hp hB hz1 hk1 hS => ?_)
  obtain ⟨hp1, hp2⟩ := Prod.mk.inj hp.symm
  subst hp1
  subst hp2
  obtain ⟨hP1, hK1, hD1⟩ := hB
  rw [ht] at hP1
  obtain ⟨hP, hD⟩ := va_join (wr := wX A cc (g1, o1)) (w1 := wM B dd t1) hP hD [11, 12, 13, 14, 15, 16, 17, 18, 19] [0, 1, 2, 3, 4, 5, 6, 7, 8, 9, 10] rfl rfl (by decide) (by decide) hk1 hFc hP1 hD1
  have hP : va_P D vwC (wL A cc B dd g1 o1 t1) H := hP
  have hD : va_D AA (wL A cc B dd g1 o1 t1) := hD
  refine lv_lstore hx hb d_L_law_302 hl (by decide) (lv' := [(6, .long r1), (5, .int k1), (0, .ref b), (1, .ref (A 0)), (2, .ref (B 0)), (3, .ref (A 10)), (4, .int (nI j))]) rfl (fun ls hl => ?_)
  refine lv_aload_n hx hb d_L_law_304 rfl (lv_at hl 4 rfl) ?_
  have hPc := hP.sub (ws' := wM B dd t1) [11, 12, 13, 14, 15, 16, 17, 18, 19] rfl
  have hDc := hD.sub (ws' := wM B dd t1) [11, 12, 13, 14, 15, 16, 17, 18, 19] (by decide) rfl
  have hKc := hK.sub (tys' := kM dd) [8, 9, 10, 11, 12, 13, 14, 15] rfl
  have hFc := va_free (wc := wM B dd t1) hD hS hA [11, 12, 13, 14, 15, 16, 17, 18, 19] rfl
  refine va_calli (va_runV (As := []) (rest := []) ⟨hx, hb, hml, hown, hts⟩ (k_M_thrown l D B dd t1 _ (t1.1, t1) rfl) (cwV 0 hts (ga_V ww_574 ww_575 ww_576 ww_4 ww_577) rfl rfl rfl (by decide +kernel) ⟨by decide, by decide⟩) (pw_pre (q0 := 0) (ci := 3) hPc hKc hDc hN rfl rfl) rfl rfl hl.1 rfl (lv_room (Nat.le_of_ble_eq_true rfl)) d_L_law_305 ⟨hn, hk⟩) hS (fun q _ h => hFc q h) hFc (fun r9 u9 t9 H locs ht hvm hp hB hz1 hk1 hS => ?_)
  obtain ⟨hp1, hp2⟩ := Prod.mk.inj hp.symm
  subst hp1
  subst hp2
  obtain ⟨hP1, hK1, hD1⟩ := hB
  rw [ht] at hP1
  obtain ⟨hP, hD⟩ := va_join (wr := wX A cc (g1, o1)) (w1 := wM B dd t1) hP hD [11, 12, 13, 14, 15, 16, 17, 18, 19] [0, 1, 2, 3, 4, 5, 6, 7, 8, 9, 10] rfl rfl (by decide) (by decide) hk1 hFc hP1 hD1
  have hP : va_P D vwC (wL A cc B dd g1 o1 t1) H := hP
  have hD : va_D AA (wL A cc B dd g1 o1 t1) := hD
  refine lv_iload hx hb d_L_law_308 (lv_at hl 1 rfl) ?_
  refine lv_icmp_eq hx hb d_L_law_310 (tgt := 315) (by decide) (fun h9 => ?_) (fun h9 => absurd hth h9)
  refine lv_iload hx hb d_L_law_315 (lv_at hl 1 rfl) ?_
  have w1 : W p l e room_1 s m #[Value.ref b] below meth c H locs (n0 + 1) (k0 + 6) Q (F0 m 331 ls []) := by
    refine lv_goto hx hb d_L_law_331 (tgt := 1665) (by decide) ?_
    exact kont g1 o1 t1 _ _ ls hI hP hD hS (lv_sub hl [2, 3, 4, 5, 6] rfl)
  refine lv_if_ne hx hb d_L_law_317 (tgt := 331) (by decide) (fun h9 => w1) (fun h9 => ?_)
  refine lv_aload_n hx hb d_L_law_320 rfl (lv_at hl 5 rfl) ?_
  refine lv_iconst (v := 0) hx hb d_L_law_321 (by decide) ?_
  refine va_lald hx hb hK hP 10 7 rfl rfl (show vp_in 0 1 by unfold vp_in; decide) d_L_law_322 ?_
  refine lv_lload hx hb d_L_law_323 (lv_at hl 0 rfl) ?_
  refine W.lcmp hx hb d_L_law_325 ?_
  exact lv_if_eq hx hb d_L_law_326 (tgt := 331) (by decide) (fun _ => w1) (fun h8 => absurd ((lg_cmp_eq _ _).mpr (hou h9)) h8)
set_option maxHeartbeats 4000000 in
set_option maxRecDepth 100000 in
theorem lw_even {p : Program} {l : Launch} {e : Env} {s : State} {m : MethodId} {below : List Frame} {meth : Method} {c : Code} {b L : Nat} {xs : Nat → Int32} {D : va_G} {A : Nat → Nat} {cc : Nat → ClassId} {B : Nat → Nat} {dd : Nat → ClassId} {AA : Nat → Prop} {Q : State → Prop} (C0 : lc p l s m meth c b L xs D cc dd AA) {I : sK → sM → Prop} (hAG : ag_even I) {g : sK} {o : Nat → Int64} {t : sM} (hI : I g t) {H : Heap} {locs : List Loc} (hP : va_P D vwC (wL A cc B dd g o t) H) (hD : va_D AA (wL A cc B dd g o t)) (hS : va_S AA s.heap H locs) {ls : Array Slot} {j : Nat} (hj : j + 7 ≤ L)
    (hl : lv_has ls 8 [(0, .ref b), (1, .ref (A 0)), (2, .ref (B 0)), (3, .ref (A 10)), (4, .int (nI j))]) {n0 k0 : Nat} (hn : n0 + 1 ≤ 1052) (hk : k0 + 6 ≤ 8410)
    (kont : ∀ (g : sK) (o : Nat → Int64) (t : sM) (H : Heap) (locs : List Loc) (ls : Array Slot), I g t → va_P D vwC (wL A cc B dd g o t) H → va_D AA (wL A cc B dd g o t) → va_S AA s.heap H locs → lv_has ls 8 [(0, .ref b), (1, .ref (A 0)), (2, .ref (B 0)), (3, .ref (A 10)), (4, .int (nI j))] → W p l e room_1 s m #[Value.ref b] below meth c H locs (n0 + 1) (k0 + 6) Q (F0 m 1665 ls [])) :
    W p l e room_1 s m #[Value.ref b] below meth c H locs n0 k0 Q (F0 m 334 ls []) := by
  obtain ⟨hx, hb, hml, hown, hts, hXs, hbl, hbA, hA, hN, hX, hC, hZ, hK, hlocks, hl0, hL⟩ := C0
  have hw : ∀ w ∈ wa, w.before _ s = true := fun w h => hts w (List.mem_cons_of_mem _ h)
  have hn0 : n0 + 0 ≤ 1052 := by omega
  have hk0 : k0 + 0 ≤ 8410 := by omega
  refine lv_aload_n hx hb d_L_law_334 rfl (lv_at hl 1 rfl) ?_
  refine lv_aload_n hx hb d_L_law_335 rfl (lv_at hl 0 rfl) ?_
  refine lv_iload hx hb d_L_law_336 (lv_at hl 4 rfl) ?_
  refine lv_iconst (v := 1) hx hb d_L_law_338 (by decide) ?_
  refine lv_iadd hx hb d_L_law_339 ?_
  refine va_sld hx hb hXs hbl hbA hS (li_1 hj hL) d_L_law_340 ?_
  obtain ⟨r1, g1, t1, hf1, hf2, hI⟩ := hAG g t (xs (Int32.toNatClampNeg (nI j + 1))) hI
  have hPc := hP.sub (ws' := wK A cc g) [0, 1, 2, 3, 4, 5, 6, 7, 8, 9] rfl
  have hDc := hD.sub (ws' := wK A cc g) [0, 1, 2, 3, 4, 5, 6, 7, 8, 9] (by decide) rfl
  have hKc := hK.sub (tys' := kK cc) [0, 1, 2, 3, 4, 5, 6] rfl
  have hFc := va_free (wc := wK A cc g) hD hS hA [0, 1, 2, 3, 4, 5, 6, 7, 8, 9] rfl
  refine va_calll (va_runV (As := [.int (xs (Int32.toNatClampNeg (nI j + 1)))]) (rest := []) ⟨hx, hb, hml, hown, hts⟩ (k_K_even l D A cc g (xs (Int32.toNatClampNeg (nI j + 1))) _ (r1, g1) hf1) (cwV 1 hts (ga_V ww_78 ww_79 ww_80 ww_1 ww_81) rfl rfl rfl (by decide +kernel) ⟨by decide, by decide⟩) (pw_pre (q0 := 0) (ci := 2) hPc hKc hDc hN rfl rfl) rfl rfl hl.1 rfl (lv_room (Nat.le_of_ble_eq_true rfl)) d_L_law_341 ⟨hn0, hk0⟩) hS (fun q _ h => hFc q h) hFc (fun r9 u9 t9 H locs ht hvm hp hB hz1 hk1 hS => ?_)
  obtain ⟨hp1, hp2⟩ := Prod.mk.inj hp.symm
  subst hp1
  subst hp2
  obtain ⟨hP1, hK1, hD1⟩ := hB
  rw [ht] at hP1
  obtain ⟨hP, hD⟩ := va_join (wr := [(A 10, .inl (cc 10, 1, .inr (.inl o))), (B 0, .inr (3, [.int t.1, .ref (B 1), .ref (B 2), .int t.2.2.2.1, .int t.2.2.2.2.1, .ref (B 3), .ref (B 4), .ref (B 5), .ref (B 6), .int t.2.2.2.2.2.2.2.2.2.1, .ref (B 7), .int t.2.2.2.2.2.2.2.2.2.2.2.1, .ref (B 8)])), (B 1, .inl (dd 1, 6, .inr (.inl t.2.1))), (B 2, .inl (dd 2, 6, .inr (.inl t.2.2.1))), (B 3, .inl (dd 3, 8, .inr (.inl t.2.2.2.2.2.1))), (B 4, .inl (dd 4, 8, .inr (.inl t.2.2.2.2.2.2.1))), (B 5, .inl (dd 5, 8, .inl t.2.2.2.2.2.2.2.1)), (B 6, .inl (dd 6, 8, .inl t.2.2.2.2.2.2.2.2.1)), (B 7, .inl (dd 7, 20, .inl t.2.2.2.2.2.2.2.2.2.2.1)), (B 8, .inl (dd 8, 16, .inl t.2.2.2.2.2.2.2.2.2.2.2.2))]) (w1 := wK A cc g1) hP hD [0, 1, 2, 3, 4, 5, 6, 7, 8, 9] [10, 11, 12, 13, 14, 15, 16, 17, 18, 19] rfl rfl (by decide) (by decide) hk1 hFc hP1 hD1
  have hP := hP.sub (ws' := wL A cc B dd g1 o t) [10, 11, 12, 13, 14, 15, 16, 17, 18, 19, 0, 1, 2, 3, 4, 5, 6, 7, 8, 9] rfl
  have hD := hD.sub (ws' := wL A cc B dd g1 o t) [10, 11, 12, 13, 14, 15, 16, 17, 18, 19, 0, 1, 2, 3, 4, 5, 6, 7, 8, 9] (by decide) rfl
  refine lv_aload_n hx hb d_L_law_344 rfl (lv_at hl 2 rfl) ?_
  refine lv_aload_n hx hb d_L_law_345 rfl (lv_at hl 0 rfl) ?_
  refine lv_iload hx hb d_L_law_346 (lv_at hl 4 rfl) ?_
  refine lv_iconst (v := 1) hx hb d_L_law_348 (by decide) ?_
  refine lv_iadd hx hb d_L_law_349 ?_
  refine va_sld hx hb hXs hbl hbA hS (li_1 hj hL) d_L_law_350 ?_
  have hPc := hP.sub (ws' := wM B dd t) [11, 12, 13, 14, 15, 16, 17, 18, 19] rfl
  have hDc := hD.sub (ws' := wM B dd t) [11, 12, 13, 14, 15, 16, 17, 18, 19] (by decide) rfl
  have hKc := hK.sub (tys' := kM dd) [8, 9, 10, 11, 12, 13, 14, 15] rfl
  have hFc := va_free (wc := wM B dd t) hD hS hA [11, 12, 13, 14, 15, 16, 17, 18, 19] rfl
  refine va_calll (va_runV (As := [.int (xs (Int32.toNatClampNeg (nI j + 1)))]) (rest := [.long r1]) ⟨hx, hb, hml, hown, hts⟩ (k_M_even l D B dd t (xs (Int32.toNatClampNeg (nI j + 1))) _ (r1, t1) hf2) (cwV 1 hts (ga_V ww_639 ww_640 ww_641 ww_4 ww_642) rfl rfl rfl (by decide +kernel) ⟨by decide, by decide⟩) (pw_pre (q0 := 0) (ci := 3) hPc hKc hDc hN rfl rfl) rfl rfl hl.1 rfl (lv_room (Nat.le_of_ble_eq_true rfl)) d_L_law_351 ⟨hn0, hk0⟩) hS (fun q _ h => hFc q h) hFc (fun r9 u9 t9 H locs ht hvm hp hB hz1 hk1 hS => ?_)
  obtain ⟨hp1, hp2⟩ := Prod.mk.inj hp.symm
  subst hp1
  subst hp2
  obtain ⟨hP1, hK1, hD1⟩ := hB
  rw [ht] at hP1
  obtain ⟨hP, hD⟩ := va_join (wr := wX A cc (g1, o)) (w1 := wM B dd t1) hP hD [11, 12, 13, 14, 15, 16, 17, 18, 19] [0, 1, 2, 3, 4, 5, 6, 7, 8, 9, 10] rfl rfl (by decide) (by decide) hk1 hFc hP1 hD1
  have hP : va_P D vwC (wL A cc B dd g1 o t1) H := hP
  have hD : va_D AA (wL A cc B dd g1 o t1) := hD
  refine W.lcmp hx hb d_L_law_354 ?_
  refine lv_if_eq hx hb d_L_law_355 (tgt := 1665) (by decide) (fun h9 => ?_) (fun h9 => absurd ((lg_cmp_eq _ _).mpr rfl) h9)
  refine W.widen (k := n0 + 1) (n := k0 + 6) (Nat.le_add_right _ _) (Nat.le_add_right _ _) ?_
  exact kont g1 o t1 _ _ ls hI hP hD hS (lv_sub hl [0, 1, 2, 3, 4] rfl)
set_option maxHeartbeats 4000000 in
set_option maxRecDepth 100000 in
theorem lw_tweak {p : Program} {l : Launch} {e : Env} {s : State} {m : MethodId} {below : List Frame} {meth : Method} {c : Code} {b L : Nat} {xs : Nat → Int32} {D : va_G} {A : Nat → Nat} {cc : Nat → ClassId} {B : Nat → Nat} {dd : Nat → ClassId} {AA : Nat → Prop} {Q : State → Prop} (C0 : lc p l s m meth c b L xs D cc dd AA) {I : sK → sM → Prop} (hAG : ag_tweak I) {g : sK} {o : Nat → Int64} {t : sM} (hI : I g t) {H : Heap} {locs : List Loc} (hP : va_P D vwC (wL A cc B dd g o t) H) (hD : va_D AA (wL A cc B dd g o t)) (hS : va_S AA s.heap H locs) {ls : Array Slot} {j : Nat} (hj : j + 7 ≤ L)
    (hl : lv_has ls 8 [(0, .ref b), (1, .ref (A 0)), (2, .ref (B 0)), (3, .ref (A 10)), (4, .int (nI j))]) {n0 k0 : Nat} (hn : n0 + 1 ≤ 1052) (hk : k0 + 6 ≤ 8410)
    (kont : ∀ (g : sK) (o : Nat → Int64) (t : sM) (H : Heap) (locs : List Loc) (ls : Array Slot), I g t → va_P D vwC (wL A cc B dd g o t) H → va_D AA (wL A cc B dd g o t) → va_S AA s.heap H locs → lv_has ls 8 [(0, .ref b), (1, .ref (A 0)), (2, .ref (B 0)), (3, .ref (A 10)), (4, .int (nI j))] → W p l e room_1 s m #[Value.ref b] below meth c H locs (n0 + 1) (k0 + 6) Q (F0 m 1665 ls [])) :
    W p l e room_1 s m #[Value.ref b] below meth c H locs n0 k0 Q (F0 m 360 ls []) := by
  obtain ⟨hx, hb, hml, hown, hts, hXs, hbl, hbA, hA, hN, hX, hC, hZ, hK, hlocks, hl0, hL⟩ := C0
  have hw : ∀ w ∈ wa, w.before _ s = true := fun w h => hts w (List.mem_cons_of_mem _ h)
  have hn0 : n0 + 0 ≤ 1052 := by omega
  have hk0 : k0 + 0 ≤ 8410 := by omega
  refine lv_aload_n hx hb d_L_law_360 rfl (lv_at hl 1 rfl) ?_
  refine lv_aload_n hx hb d_L_law_361 rfl (lv_at hl 0 rfl) ?_
  refine lv_iload hx hb d_L_law_362 (lv_at hl 4 rfl) ?_
  refine lv_iconst (v := 1) hx hb d_L_law_364 (by decide) ?_
  refine lv_iadd hx hb d_L_law_365 ?_
  refine va_sld hx hb hXs hbl hbA hS (li_1 hj hL) d_L_law_366 ?_
  refine lv_aload_n hx hb d_L_law_367 rfl (lv_at hl 0 rfl) ?_
  refine lv_iload hx hb d_L_law_368 (lv_at hl 4 rfl) ?_
  refine lv_iconst (v := 2) hx hb d_L_law_370 (by decide) ?_
  refine lv_iadd hx hb d_L_law_371 ?_
  refine va_sld hx hb hXs hbl hbA hS (li_2 hj hL) d_L_law_372 ?_
  refine lv_aload_n hx hb d_L_law_373 rfl (lv_at hl 0 rfl) ?_
  refine lv_iload hx hb d_L_law_374 (lv_at hl 4 rfl) ?_
  refine lv_iconst (v := 3) hx hb d_L_law_376 (by decide) ?_
  refine lv_iadd hx hb d_L_law_377 ?_
  refine va_sld hx hb hXs hbl hbA hS (li_3 hj hL) d_L_law_378 ?_
  have w1 : ∀ z2 : Int32, z2 = (if (xs (Int32.toNatClampNeg (nI j + 3))) = 0 then 0 else 1) → W p l e room_1 s m #[Value.ref b] below meth c H locs n0 k0 Q (F0 m 387 ls [.int z2, .int (xs (Int32.toNatClampNeg (nI j + 2))), .int (xs (Int32.toNatClampNeg (nI j + 1))), .ref (A 0)]) := by
    intro z2 h_z2
    refine lv_aload_n hx hb d_L_law_387 rfl (lv_at hl 3 rfl) ?_
    obtain ⟨k1, r1, g1, o1, t1, hf1, hf2, hth, hou, hI⟩ := hAG g o t (xs (Int32.toNatClampNeg (nI j + 1))) (xs (Int32.toNatClampNeg (nI j + 2))) z2 hI
    have hPc := hP.sub (ws' := wX A cc (g, o)) [0, 1, 2, 3, 4, 5, 6, 7, 8, 9, 10] rfl
    have hDc := hD.sub (ws' := wX A cc (g, o)) [0, 1, 2, 3, 4, 5, 6, 7, 8, 9, 10] (by decide) rfl
    have hKc := hK.sub (tys' := kX cc) [0, 1, 2, 3, 4, 5, 6, 7] rfl
    have hFc := va_free (wc := wX A cc (g, o)) hD hS hA [0, 1, 2, 3, 4, 5, 6, 7, 8, 9, 10] rfl
    refine va_calli (vx_runSW (As := [.ref (A 0), .int (xs (Int32.toNatClampNeg (nI j + 1))), .int (xs (Int32.toNatClampNeg (nI j + 2))), .int z2, .ref (A 10)]) (rest := []) ⟨hx, hb, hml, hown, hts⟩ (k_L_tweak l hl0 D A cc (g, o) (xs (Int32.toNatClampNeg (nI j + 1))) (xs (Int32.toNatClampNeg (nI j + 2))) z2 _ (k1, (g1, o1)) hf1) (vx_cwSW 5 hts (ga_S ww_338 ww_339 ww_0 ww_340) rfl rfl rfl (by decide +kernel) ⟨by decide, by decide⟩) (pwl_pre hPc hKc hDc hN hX hZ hC hS hFc) rfl rfl hl.1 rfl (lv_room (Nat.le_of_ble_eq_true rfl)) d_L_law_388 ⟨hn, hk⟩) hS (fun q _ h => hFc q h) hFc (fun r9 u9 t9 H locs ht hvm hp hB hz1 hk1 hS => ?_)
    obtain ⟨hp1, hp2⟩ := Prod.mk.inj hp.symm
    subst hp1
    subst hp2
    obtain ⟨hP1, hK1, hD1⟩ := hB
    rw [ht] at hP1
    obtain ⟨hP, hD⟩ := va_join (wr := wM B dd t) (w1 := wX A cc (g1, o1)) hP hD [0, 1, 2, 3, 4, 5, 6, 7, 8, 9, 10] [11, 12, 13, 14, 15, 16, 17, 18, 19] rfl rfl (by decide) (by decide) hk1 hFc hP1 hD1
    have hP := hP.sub (ws' := wL A cc B dd g1 o1 t) [9, 10, 11, 12, 13, 14, 15, 16, 17, 18, 19, 0, 1, 2, 3, 4, 5, 6, 7, 8] rfl
    have hD := hD.sub (ws' := wL A cc B dd g1 o1 t) [9, 10, 11, 12, 13, 14, 15, 16, 17, 18, 19, 0, 1, 2, 3, 4, 5, 6, 7, 8] (by decide) rfl
    refine lv_istore hx hb d_L_law_391 hl (by decide) (lv' := [(5, .int k1), (0, .ref b), (1, .ref (A 0)), (2, .ref (B 0)), (3, .ref (A 10)), (4, .int (nI j))]) rfl (fun ls hl => ?_)
    refine lv_aload_n hx hb d_L_law_393 rfl (lv_at hl 3 rfl) ?_
    refine lv_aload_n hx hb d_L_law_394 rfl (lv_at hl 1 rfl) ?_
    refine lv_iload hx hb d_L_law_395 (lv_at hl 5 rfl) ?_
    refine lv_iconst (v := 1) hx hb d_L_law_397 (by decide) ?_
    refine lv_iadd hx hb d_L_law_398 ?_
    refine va_sld hx hb hXs hbl hbA hS (li_1 hj hL) d_L_law_399 ?_
    refine lv_aload_n hx hb d_L_law_400 rfl (lv_at hl 1 rfl) ?_
    refine lv_iload hx hb d_L_law_401 (lv_at hl 5 rfl) ?_
    refine lv_iconst (v := 2) hx hb d_L_law_403 (by decide) ?_
    refine lv_iadd hx hb d_L_law_404 ?_
    refine va_sld hx hb hXs hbl hbA hS (li_2 hj hL) d_L_law_405 ?_
    refine lv_aload_n hx hb d_L_law_406 rfl (lv_at hl 1 rfl) ?_
    refine lv_iload hx hb d_L_law_407 (lv_at hl 5 rfl) ?_
    refine lv_iconst (v := 3) hx hb d_L_law_409 (by decide) ?_
    refine lv_iadd hx hb d_L_law_410 ?_
    refine va_sld hx hb hXs hbl hbA hS (li_3 hj hL) d_L_law_411 ?_
    have w3 : ∀ z4 : Int32, z4 = (if (xs (Int32.toNatClampNeg (nI j + 3))) = 0 then 0 else 1) → W p l e room_1 s m #[Value.ref b] below meth c H locs (n0 + 1) (k0 + 6) Q (F0 m 420 ls [.int z4, .int (xs (Int32.toNatClampNeg (nI j + 2))), .int (xs (Int32.toNatClampNeg (nI j + 1))), .ref (B 0)]) := by
      intro z4 h_z4
      obtain rfl : z2 = z4 := h_z2.trans h_z4.symm
      have hPc := hP.sub (ws' := wM B dd t) [11, 12, 13, 14, 15, 16, 17, 18, 19] rfl
      have hDc := hD.sub (ws' := wM B dd t) [11, 12, 13, 14, 15, 16, 17, 18, 19] (by decide) rfl
      have hKc := hK.sub (tys' := kM dd) [8, 9, 10, 11, 12, 13, 14, 15] rfl
      have hFc := va_free (wc := wM B dd t) hD hS hA [11, 12, 13, 14, 15, 16, 17, 18, 19] rfl
      refine va_calll (va_runV (As := [.int (xs (Int32.toNatClampNeg (nI j + 1))), .int (xs (Int32.toNatClampNeg (nI j + 2))), .int z2]) (rest := []) ⟨hx, hb, hml, hown, hts⟩ (k_M_tweak l D B dd t (xs (Int32.toNatClampNeg (nI j + 1))) (xs (Int32.toNatClampNeg (nI j + 2))) z2 _ (r1, t1) hf2) (cwV 3 hts (ga_V ww_643 ww_644 ww_645 ww_4 ww_646) rfl rfl rfl (by decide +kernel) ⟨by decide, by decide⟩) (pw_pre (q0 := 0) (ci := 3) hPc hKc hDc hN rfl rfl) rfl rfl hl.1 rfl (lv_room (Nat.le_of_ble_eq_true rfl)) d_L_law_420 ⟨hn, hk⟩) hS (fun q _ h => hFc q h) hFc (fun r9 u9 t9 H locs ht hvm hp hB hz1 hk1 hS => ?_)
      obtain ⟨hp1, hp2⟩ := Prod.mk.inj hp.symm
      subst hp1
      subst hp2
      obtain ⟨hP1, hK1, hD1⟩ := hB
      rw [ht] at hP1
      obtain ⟨hP, hD⟩ := va_join (wr := wX A cc (g1, o1)) (w1 := wM B dd t1) hP hD [11, 12, 13, 14, 15, 16, 17, 18, 19] [0, 1, 2, 3, 4, 5, 6, 7, 8, 9, 10] rfl rfl (by decide) (by decide) hk1 hFc hP1 hD1
      have hP : va_P D vwC (wL A cc B dd g1 o1 t1) H := hP
      have hD : va_D AA (wL A cc B dd g1 o1 t1) := hD
      refine lv_lstore hx hb d_L_law_423 hl (by decide) (lv' := [(6, .long r1), (5, .int k1), (0, .ref b), (1, .ref (A 0)), (2, .ref (B 0)), (3, .ref (A 10)), (4, .int (nI j))]) rfl (fun ls hl => ?_)
      refine lv_aload_n hx hb d_L_law_425 rfl (lv_at hl 4 rfl) ?_
      have hPc := hP.sub (ws' := wM B dd t1) [11, 12, 13, 14, 15, 16, 17, 18, 19] rfl
      have hDc := hD.sub (ws' := wM B dd t1) [11, 12, 13, 14, 15, 16, 17, 18, 19] (by decide) rfl
      have hKc := hK.sub (tys' := kM dd) [8, 9, 10, 11, 12, 13, 14, 15] rfl
      have hFc := va_free (wc := wM B dd t1) hD hS hA [11, 12, 13, 14, 15, 16, 17, 18, 19] rfl
      refine va_calli (va_runV (As := []) (rest := []) ⟨hx, hb, hml, hown, hts⟩ (k_M_thrown l D B dd t1 _ (t1.1, t1) rfl) (cwV 0 hts (ga_V ww_574 ww_575 ww_576 ww_4 ww_577) rfl rfl rfl (by decide +kernel) ⟨by decide, by decide⟩) (pw_pre (q0 := 0) (ci := 3) hPc hKc hDc hN rfl rfl) rfl rfl hl.1 rfl (lv_room (Nat.le_of_ble_eq_true rfl)) d_L_law_426 ⟨hn, hk⟩) hS (fun q _ h => hFc q h) hFc (fun r9 u9 t9 H locs ht hvm hp hB hz1 hk1 hS => ?_)
      obtain ⟨hp1, hp2⟩ := Prod.mk.inj hp.symm
      subst hp1
      subst hp2
      obtain ⟨hP1, hK1, hD1⟩ := hB
      rw [ht] at hP1
      obtain ⟨hP, hD⟩ := va_join (wr := wX A cc (g1, o1)) (w1 := wM B dd t1) hP hD [11, 12, 13, 14, 15, 16, 17, 18, 19] [0, 1, 2, 3, 4, 5, 6, 7, 8, 9, 10] rfl rfl (by decide) (by decide) hk1 hFc hP1 hD1
      have hP : va_P D vwC (wL A cc B dd g1 o1 t1) H := hP
      have hD : va_D AA (wL A cc B dd g1 o1 t1) := hD
      refine lv_iload hx hb d_L_law_429 (lv_at hl 1 rfl) ?_
      refine lv_icmp_eq hx hb d_L_law_431 (tgt := 436) (by decide) (fun h9 => ?_) (fun h9 => absurd hth h9)
      refine lv_iload hx hb d_L_law_436 (lv_at hl 1 rfl) ?_
      have w5 : W p l e room_1 s m #[Value.ref b] below meth c H locs (n0 + 1) (k0 + 6) Q (F0 m 452 ls []) := by
        refine lv_goto hx hb d_L_law_452 (tgt := 1665) (by decide) ?_
        exact kont g1 o1 t1 _ _ ls hI hP hD hS (lv_sub hl [2, 3, 4, 5, 6] rfl)
      refine lv_if_ne hx hb d_L_law_438 (tgt := 452) (by decide) (fun h9 => w5) (fun h9 => ?_)
      refine lv_aload_n hx hb d_L_law_441 rfl (lv_at hl 5 rfl) ?_
      refine lv_iconst (v := 0) hx hb d_L_law_442 (by decide) ?_
      refine va_lald hx hb hK hP 10 7 rfl rfl (show vp_in 0 1 by unfold vp_in; decide) d_L_law_443 ?_
      refine lv_lload hx hb d_L_law_444 (lv_at hl 0 rfl) ?_
      refine W.lcmp hx hb d_L_law_446 ?_
      exact lv_if_eq hx hb d_L_law_447 (tgt := 452) (by decide) (fun _ => w5) (fun h8 => absurd ((lg_cmp_eq _ _).mpr (hou h9)) h8)
    refine lv_if_eq hx hb d_L_law_412 (tgt := 419) (by decide) (fun h9 => ?_) (fun h9 => ?_)
    · refine lv_iconst (v := 0) hx hb d_L_law_419 (by decide) ?_
      exact w3 _ (if_pos h9).symm
    · refine lv_iconst (v := 1) hx hb d_L_law_415 (by decide) ?_
      refine lv_goto hx hb d_L_law_416 (tgt := 420) (by decide) ?_
      exact w3 _ (if_neg h9).symm
  refine lv_if_eq hx hb d_L_law_379 (tgt := 386) (by decide) (fun h9 => ?_) (fun h9 => ?_)
  · refine lv_iconst (v := 0) hx hb d_L_law_386 (by decide) ?_
    exact w1 _ (if_pos h9).symm
  · refine lv_iconst (v := 1) hx hb d_L_law_382 (by decide) ?_
    refine lv_goto hx hb d_L_law_383 (tgt := 387) (by decide) ?_
    exact w1 _ (if_neg h9).symm
set_option maxHeartbeats 4000000 in
set_option maxRecDepth 100000 in
theorem lw_combine {p : Program} {l : Launch} {e : Env} {s : State} {m : MethodId} {below : List Frame} {meth : Method} {c : Code} {b L : Nat} {xs : Nat → Int32} {D : va_G} {A : Nat → Nat} {cc : Nat → ClassId} {B : Nat → Nat} {dd : Nat → ClassId} {AA : Nat → Prop} {Q : State → Prop} (C0 : lc p l s m meth c b L xs D cc dd AA) {I : sK → sM → Prop} (hAG : ag_combine I) {g : sK} {o : Nat → Int64} {t : sM} (hI : I g t) {H : Heap} {locs : List Loc} (hP : va_P D vwC (wL A cc B dd g o t) H) (hD : va_D AA (wL A cc B dd g o t)) (hS : va_S AA s.heap H locs) {ls : Array Slot} {j : Nat} (hj : j + 7 ≤ L)
    (hl : lv_has ls 8 [(0, .ref b), (1, .ref (A 0)), (2, .ref (B 0)), (3, .ref (A 10)), (4, .int (nI j))]) {n0 k0 : Nat} (hn : n0 + 1 ≤ 1052) (hk : k0 + 6 ≤ 8410)
    (kont : ∀ (g : sK) (o : Nat → Int64) (t : sM) (H : Heap) (locs : List Loc) (ls : Array Slot), I g t → va_P D vwC (wL A cc B dd g o t) H → va_D AA (wL A cc B dd g o t) → va_S AA s.heap H locs → lv_has ls 8 [(0, .ref b), (1, .ref (A 0)), (2, .ref (B 0)), (3, .ref (A 10)), (4, .int (nI j))] → W p l e room_1 s m #[Value.ref b] below meth c H locs (n0 + 1) (k0 + 6) Q (F0 m 1665 ls [])) :
    W p l e room_1 s m #[Value.ref b] below meth c H locs n0 k0 Q (F0 m 455 ls []) := by
  obtain ⟨hx, hb, hml, hown, hts, hXs, hbl, hbA, hA, hN, hX, hC, hZ, hK, hlocks, hl0, hL⟩ := C0
  have hw : ∀ w ∈ wa, w.before _ s = true := fun w h => hts w (List.mem_cons_of_mem _ h)
  have hn0 : n0 + 0 ≤ 1052 := by omega
  have hk0 : k0 + 0 ≤ 8410 := by omega
  refine lv_aload_n hx hb d_L_law_455 rfl (lv_at hl 1 rfl) ?_
  refine lv_aload_n hx hb d_L_law_456 rfl (lv_at hl 0 rfl) ?_
  refine lv_iload hx hb d_L_law_457 (lv_at hl 4 rfl) ?_
  refine lv_iconst (v := 1) hx hb d_L_law_459 (by decide) ?_
  refine lv_iadd hx hb d_L_law_460 ?_
  refine va_sld hx hb hXs hbl hbA hS (li_1 hj hL) d_L_law_461 ?_
  refine lv_aload_n hx hb d_L_law_462 rfl (lv_at hl 0 rfl) ?_
  refine lv_iload hx hb d_L_law_463 (lv_at hl 4 rfl) ?_
  refine lv_iconst (v := 2) hx hb d_L_law_465 (by decide) ?_
  refine lv_iadd hx hb d_L_law_466 ?_
  refine va_sld hx hb hXs hbl hbA hS (li_2 hj hL) d_L_law_467 ?_
  refine lv_aload_n hx hb d_L_law_468 rfl (lv_at hl 0 rfl) ?_
  refine lv_iload hx hb d_L_law_469 (lv_at hl 4 rfl) ?_
  refine lv_iconst (v := 3) hx hb d_L_law_471 (by decide) ?_
  refine lv_iadd hx hb d_L_law_472 ?_
  refine va_sld hx hb hXs hbl hbA hS (li_3 hj hL) d_L_law_473 ?_
  refine lv_aload_n hx hb d_L_law_474 rfl (lv_at hl 3 rfl) ?_
  obtain ⟨k1, r1, g1, o1, t1, hf1, hf2, hth, hou, hI⟩ := hAG g o t (xs (Int32.toNatClampNeg (nI j + 1))) (xs (Int32.toNatClampNeg (nI j + 2))) (xs (Int32.toNatClampNeg (nI j + 3))) hI
  have hPc := hP.sub (ws' := wX A cc (g, o)) [0, 1, 2, 3, 4, 5, 6, 7, 8, 9, 10] rfl
  have hDc := hD.sub (ws' := wX A cc (g, o)) [0, 1, 2, 3, 4, 5, 6, 7, 8, 9, 10] (by decide) rfl
  have hKc := hK.sub (tys' := kX cc) [0, 1, 2, 3, 4, 5, 6, 7] rfl
  have hFc := va_free (wc := wX A cc (g, o)) hD hS hA [0, 1, 2, 3, 4, 5, 6, 7, 8, 9, 10] rfl
  refine va_calli (vx_runSW (As := [.ref (A 0), .int (xs (Int32.toNatClampNeg (nI j + 1))), .int (xs (Int32.toNatClampNeg (nI j + 2))), .int (xs (Int32.toNatClampNeg (nI j + 3))), .ref (A 10)]) (rest := []) ⟨hx, hb, hml, hown, hts⟩ (k_L_combine l hl0 D A cc (g, o) (xs (Int32.toNatClampNeg (nI j + 1))) (xs (Int32.toNatClampNeg (nI j + 2))) (xs (Int32.toNatClampNeg (nI j + 3))) _ (k1, (g1, o1)) hf1) (vx_cwSW 5 hts (ga_S ww_370 ww_371 ww_0 ww_372) rfl rfl rfl (by decide +kernel) ⟨by decide, by decide⟩) (pwl_pre hPc hKc hDc hN hX hZ hC hS hFc) rfl rfl hl.1 rfl (lv_room (Nat.le_of_ble_eq_true rfl)) d_L_law_475 ⟨hn, hk⟩) hS (fun q _ h => hFc q h) hFc (fun r9 u9 t9 H locs ht hvm hp hB hz1 hk1 hS => ?_)
  obtain ⟨hp1, hp2⟩ := Prod.mk.inj hp.symm
  subst hp1
  subst hp2
  obtain ⟨hP1, hK1, hD1⟩ := hB
  rw [ht] at hP1
  obtain ⟨hP, hD⟩ := va_join (wr := wM B dd t) (w1 := wX A cc (g1, o1)) hP hD [0, 1, 2, 3, 4, 5, 6, 7, 8, 9, 10] [11, 12, 13, 14, 15, 16, 17, 18, 19] rfl rfl (by decide) (by decide) hk1 hFc hP1 hD1
  have hP := hP.sub (ws' := wL A cc B dd g1 o1 t) [9, 10, 11, 12, 13, 14, 15, 16, 17, 18, 19, 0, 1, 2, 3, 4, 5, 6, 7, 8] rfl
  have hD := hD.sub (ws' := wL A cc B dd g1 o1 t) [9, 10, 11, 12, 13, 14, 15, 16, 17, 18, 19, 0, 1, 2, 3, 4, 5, 6, 7, 8] (by decide) rfl
  refine lv_istore hx hb d_L_law_478 hl (by decide) (lv' := [(5, .int k1), (0, .ref b), (1, .ref (A 0)), (2, .ref (B 0)), (3, .ref (A 10)), (4, .int (nI j))]) rfl (fun ls hl => ?_)
  refine lv_aload_n hx hb d_L_law_480 rfl (lv_at hl 3 rfl) ?_
  refine lv_aload_n hx hb d_L_law_481 rfl (lv_at hl 1 rfl) ?_
  refine lv_iload hx hb d_L_law_482 (lv_at hl 5 rfl) ?_
  refine lv_iconst (v := 1) hx hb d_L_law_484 (by decide) ?_
  refine lv_iadd hx hb d_L_law_485 ?_
  refine va_sld hx hb hXs hbl hbA hS (li_1 hj hL) d_L_law_486 ?_
  refine lv_aload_n hx hb d_L_law_487 rfl (lv_at hl 1 rfl) ?_
  refine lv_iload hx hb d_L_law_488 (lv_at hl 5 rfl) ?_
  refine lv_iconst (v := 2) hx hb d_L_law_490 (by decide) ?_
  refine lv_iadd hx hb d_L_law_491 ?_
  refine va_sld hx hb hXs hbl hbA hS (li_2 hj hL) d_L_law_492 ?_
  refine lv_aload_n hx hb d_L_law_493 rfl (lv_at hl 1 rfl) ?_
  refine lv_iload hx hb d_L_law_494 (lv_at hl 5 rfl) ?_
  refine lv_iconst (v := 3) hx hb d_L_law_496 (by decide) ?_
  refine lv_iadd hx hb d_L_law_497 ?_
  refine va_sld hx hb hXs hbl hbA hS (li_3 hj hL) d_L_law_498 ?_
  have hPc := hP.sub (ws' := wM B dd t) [11, 12, 13, 14, 15, 16, 17, 18, 19] rfl
  have hDc := hD.sub (ws' := wM B dd t) [11, 12, 13, 14, 15, 16, 17, 18, 19] (by decide) rfl
  have hKc := hK.sub (tys' := kM dd) [8, 9, 10, 11, 12, 13, 14, 15] rfl
  have hFc := va_free (wc := wM B dd t) hD hS hA [11, 12, 13, 14, 15, 16, 17, 18, 19] rfl
  refine va_calll (va_runV (As := [.int (xs (Int32.toNatClampNeg (nI j + 1))), .int (xs (Int32.toNatClampNeg (nI j + 2))), .int (xs (Int32.toNatClampNeg (nI j + 3)))]) (rest := []) ⟨hx, hb, hml, hown, hts⟩ (k_M_combine l D B dd t (xs (Int32.toNatClampNeg (nI j + 1))) (xs (Int32.toNatClampNeg (nI j + 2))) (xs (Int32.toNatClampNeg (nI j + 3))) _ (r1, t1) hf2) (cwV 3 hts (ga_V ww_654 ww_655 ww_656 ww_4 ww_657) rfl rfl rfl (by decide +kernel) ⟨by decide, by decide⟩) (pw_pre (q0 := 0) (ci := 3) hPc hKc hDc hN rfl rfl) rfl rfl hl.1 rfl (lv_room (Nat.le_of_ble_eq_true rfl)) d_L_law_499 ⟨hn, hk⟩) hS (fun q _ h => hFc q h) hFc (fun r9 u9 t9 H locs ht hvm hp hB hz1 hk1 hS => ?_)
  obtain ⟨hp1, hp2⟩ := Prod.mk.inj hp.symm
  subst hp1
  subst hp2
  obtain ⟨hP1, hK1, hD1⟩ := hB
  rw [ht] at hP1
  obtain ⟨hP, hD⟩ := va_join (wr := wX A cc (g1, o1)) (w1 := wM B dd t1) hP hD [11, 12, 13, 14, 15, 16, 17, 18, 19] [0, 1, 2, 3, 4, 5, 6, 7, 8, 9, 10] rfl rfl (by decide) (by decide) hk1 hFc hP1 hD1
  have hP : va_P D vwC (wL A cc B dd g1 o1 t1) H := hP
  have hD : va_D AA (wL A cc B dd g1 o1 t1) := hD
  refine lv_lstore hx hb d_L_law_502 hl (by decide) (lv' := [(6, .long r1), (5, .int k1), (0, .ref b), (1, .ref (A 0)), (2, .ref (B 0)), (3, .ref (A 10)), (4, .int (nI j))]) rfl (fun ls hl => ?_)
  refine lv_aload_n hx hb d_L_law_504 rfl (lv_at hl 4 rfl) ?_
  have hPc := hP.sub (ws' := wM B dd t1) [11, 12, 13, 14, 15, 16, 17, 18, 19] rfl
  have hDc := hD.sub (ws' := wM B dd t1) [11, 12, 13, 14, 15, 16, 17, 18, 19] (by decide) rfl
  have hKc := hK.sub (tys' := kM dd) [8, 9, 10, 11, 12, 13, 14, 15] rfl
  have hFc := va_free (wc := wM B dd t1) hD hS hA [11, 12, 13, 14, 15, 16, 17, 18, 19] rfl
  refine va_calli (va_runV (As := []) (rest := []) ⟨hx, hb, hml, hown, hts⟩ (k_M_thrown l D B dd t1 _ (t1.1, t1) rfl) (cwV 0 hts (ga_V ww_574 ww_575 ww_576 ww_4 ww_577) rfl rfl rfl (by decide +kernel) ⟨by decide, by decide⟩) (pw_pre (q0 := 0) (ci := 3) hPc hKc hDc hN rfl rfl) rfl rfl hl.1 rfl (lv_room (Nat.le_of_ble_eq_true rfl)) d_L_law_505 ⟨hn, hk⟩) hS (fun q _ h => hFc q h) hFc (fun r9 u9 t9 H locs ht hvm hp hB hz1 hk1 hS => ?_)
  obtain ⟨hp1, hp2⟩ := Prod.mk.inj hp.symm
  subst hp1
  subst hp2
  obtain ⟨hP1, hK1, hD1⟩ := hB
  rw [ht] at hP1
  obtain ⟨hP, hD⟩ := va_join (wr := wX A cc (g1, o1)) (w1 := wM B dd t1) hP hD [11, 12, 13, 14, 15, 16, 17, 18, 19] [0, 1, 2, 3, 4, 5, 6, 7, 8, 9, 10] rfl rfl (by decide) (by decide) hk1 hFc hP1 hD1
  have hP : va_P D vwC (wL A cc B dd g1 o1 t1) H := hP
  have hD : va_D AA (wL A cc B dd g1 o1 t1) := hD
  refine lv_iload hx hb d_L_law_508 (lv_at hl 1 rfl) ?_
  refine lv_icmp_eq hx hb d_L_law_510 (tgt := 515) (by decide) (fun h9 => ?_) (fun h9 => absurd hth h9)
  refine lv_iload hx hb d_L_law_515 (lv_at hl 1 rfl) ?_
  have w1 : W p l e room_1 s m #[Value.ref b] below meth c H locs (n0 + 1) (k0 + 6) Q (F0 m 531 ls []) := by
    refine lv_goto hx hb d_L_law_531 (tgt := 1665) (by decide) ?_
    exact kont g1 o1 t1 _ _ ls hI hP hD hS (lv_sub hl [2, 3, 4, 5, 6] rfl)
  refine lv_if_ne hx hb d_L_law_517 (tgt := 531) (by decide) (fun h9 => w1) (fun h9 => ?_)
  refine lv_aload_n hx hb d_L_law_520 rfl (lv_at hl 5 rfl) ?_
  refine lv_iconst (v := 0) hx hb d_L_law_521 (by decide) ?_
  refine va_lald hx hb hK hP 10 7 rfl rfl (show vp_in 0 1 by unfold vp_in; decide) d_L_law_522 ?_
  refine lv_lload hx hb d_L_law_523 (lv_at hl 0 rfl) ?_
  refine W.lcmp hx hb d_L_law_525 ?_
  exact lv_if_eq hx hb d_L_law_526 (tgt := 531) (by decide) (fun _ => w1) (fun h8 => absurd ((lg_cmp_eq _ _).mpr (hou h9)) h8)
set_option maxHeartbeats 4000000 in
set_option maxRecDepth 100000 in
theorem lw_linear {p : Program} {l : Launch} {e : Env} {s : State} {m : MethodId} {below : List Frame} {meth : Method} {c : Code} {b L : Nat} {xs : Nat → Int32} {D : va_G} {A : Nat → Nat} {cc : Nat → ClassId} {B : Nat → Nat} {dd : Nat → ClassId} {AA : Nat → Prop} {Q : State → Prop} (C0 : lc p l s m meth c b L xs D cc dd AA) {I : sK → sM → Prop} (hAG : ag_linear I) {g : sK} {o : Nat → Int64} {t : sM} (hI : I g t) {H : Heap} {locs : List Loc} (hP : va_P D vwC (wL A cc B dd g o t) H) (hD : va_D AA (wL A cc B dd g o t)) (hS : va_S AA s.heap H locs) {ls : Array Slot} {j : Nat} (hj : j + 7 ≤ L)
    (hl : lv_has ls 8 [(0, .ref b), (1, .ref (A 0)), (2, .ref (B 0)), (3, .ref (A 10)), (4, .int (nI j))]) {n0 k0 : Nat} (hn : n0 + 1 ≤ 1052) (hk : k0 + 6 ≤ 8410)
    (kont : ∀ (g : sK) (o : Nat → Int64) (t : sM) (H : Heap) (locs : List Loc) (ls : Array Slot), I g t → va_P D vwC (wL A cc B dd g o t) H → va_D AA (wL A cc B dd g o t) → va_S AA s.heap H locs → lv_has ls 8 [(0, .ref b), (1, .ref (A 0)), (2, .ref (B 0)), (3, .ref (A 10)), (4, .int (nI j))] → W p l e room_1 s m #[Value.ref b] below meth c H locs (n0 + 1) (k0 + 6) Q (F0 m 1665 ls [])) :
    W p l e room_1 s m #[Value.ref b] below meth c H locs n0 k0 Q (F0 m 534 ls []) := by
  obtain ⟨hx, hb, hml, hown, hts, hXs, hbl, hbA, hA, hN, hX, hC, hZ, hK, hlocks, hl0, hL⟩ := C0
  have hw : ∀ w ∈ wa, w.before _ s = true := fun w h => hts w (List.mem_cons_of_mem _ h)
  have hn0 : n0 + 0 ≤ 1052 := by omega
  have hk0 : k0 + 0 ≤ 8410 := by omega
  refine lv_aload_n hx hb d_L_law_534 rfl (lv_at hl 1 rfl) ?_
  refine lv_aload_n hx hb d_L_law_535 rfl (lv_at hl 0 rfl) ?_
  refine lv_iload hx hb d_L_law_536 (lv_at hl 4 rfl) ?_
  refine lv_iconst (v := 1) hx hb d_L_law_538 (by decide) ?_
  refine lv_iadd hx hb d_L_law_539 ?_
  refine va_sld hx hb hXs hbl hbA hS (li_1 hj hL) d_L_law_540 ?_
  refine lv_aload_n hx hb d_L_law_541 rfl (lv_at hl 0 rfl) ?_
  refine lv_iload hx hb d_L_law_542 (lv_at hl 4 rfl) ?_
  refine lv_iconst (v := 2) hx hb d_L_law_544 (by decide) ?_
  refine lv_iadd hx hb d_L_law_545 ?_
  refine va_sld hx hb hXs hbl hbA hS (li_2 hj hL) d_L_law_546 ?_
  refine lv_aload_n hx hb d_L_law_547 rfl (lv_at hl 0 rfl) ?_
  refine lv_iload hx hb d_L_law_548 (lv_at hl 4 rfl) ?_
  refine lv_iconst (v := 3) hx hb d_L_law_550 (by decide) ?_
  refine lv_iadd hx hb d_L_law_551 ?_
  refine va_sld hx hb hXs hbl hbA hS (li_3 hj hL) d_L_law_552 ?_
  refine lv_aload_n hx hb d_L_law_553 rfl (lv_at hl 3 rfl) ?_
  obtain ⟨k1, r1, g1, o1, t1, hf1, hf2, hth, hou, hI⟩ := hAG g o t (xs (Int32.toNatClampNeg (nI j + 1))) (xs (Int32.toNatClampNeg (nI j + 2))) (xs (Int32.toNatClampNeg (nI j + 3))) hI
  have hPc := hP.sub (ws' := wX A cc (g, o)) [0, 1, 2, 3, 4, 5, 6, 7, 8, 9, 10] rfl
  have hDc := hD.sub (ws' := wX A cc (g, o)) [0, 1, 2, 3, 4, 5, 6, 7, 8, 9, 10] (by decide) rfl
  have hKc := hK.sub (tys' := kX cc) [0, 1, 2, 3, 4, 5, 6, 7] rfl
  have hFc := va_free (wc := wX A cc (g, o)) hD hS hA [0, 1, 2, 3, 4, 5, 6, 7, 8, 9, 10] rfl
  refine va_calli (vx_runSW (As := [.ref (A 0), .int (xs (Int32.toNatClampNeg (nI j + 1))), .int (xs (Int32.toNatClampNeg (nI j + 2))), .int (xs (Int32.toNatClampNeg (nI j + 3))), .ref (A 10)]) (rest := []) ⟨hx, hb, hml, hown, hts⟩ (k_L_linear l hl0 D A cc (g, o) (xs (Int32.toNatClampNeg (nI j + 1))) (xs (Int32.toNatClampNeg (nI j + 2))) (xs (Int32.toNatClampNeg (nI j + 3))) _ (k1, (g1, o1)) hf1) (vx_cwSW 5 hts (ga_S ww_377 ww_378 ww_0 ww_379) rfl rfl rfl (by decide +kernel) ⟨by decide, by decide⟩) (pwl_pre hPc hKc hDc hN hX hZ hC hS hFc) rfl rfl hl.1 rfl (lv_room (Nat.le_of_ble_eq_true rfl)) d_L_law_554 ⟨hn, hk⟩) hS (fun q _ h => hFc q h) hFc (fun r9 u9 t9 H locs ht hvm hp hB hz1 hk1 hS => ?_)
  obtain ⟨hp1, hp2⟩ := Prod.mk.inj hp.symm
  subst hp1
  subst hp2
  obtain ⟨hP1, hK1, hD1⟩ := hB
  rw [ht] at hP1
  obtain ⟨hP, hD⟩ := va_join (wr := wM B dd t) (w1 := wX A cc (g1, o1)) hP hD [0, 1, 2, 3, 4, 5, 6, 7, 8, 9, 10] [11, 12, 13, 14, 15, 16, 17, 18, 19] rfl rfl (by decide) (by decide) hk1 hFc hP1 hD1
  have hP := hP.sub (ws' := wL A cc B dd g1 o1 t) [9, 10, 11, 12, 13, 14, 15, 16, 17, 18, 19, 0, 1, 2, 3, 4, 5, 6, 7, 8] rfl
  have hD := hD.sub (ws' := wL A cc B dd g1 o1 t) [9, 10, 11, 12, 13, 14, 15, 16, 17, 18, 19, 0, 1, 2, 3, 4, 5, 6, 7, 8] (by decide) rfl
  refine lv_istore hx hb d_L_law_557 hl (by decide) (lv' := [(5, .int k1), (0, .ref b), (1, .ref (A 0)), (2, .ref (B 0)), (3, .ref (A 10)), (4, .int (nI j))]) rfl (fun ls hl => ?_)
  refine lv_aload_n hx hb d_L_law_559 rfl (lv_at hl 3 rfl) ?_
  refine lv_aload_n hx hb d_L_law_560 rfl (lv_at hl 1 rfl) ?_
  refine lv_iload hx hb d_L_law_561 (lv_at hl 5 rfl) ?_
  refine lv_iconst (v := 1) hx hb d_L_law_563 (by decide) ?_
  refine lv_iadd hx hb d_L_law_564 ?_
  refine va_sld hx hb hXs hbl hbA hS (li_1 hj hL) d_L_law_565 ?_
  refine lv_aload_n hx hb d_L_law_566 rfl (lv_at hl 1 rfl) ?_
  refine lv_iload hx hb d_L_law_567 (lv_at hl 5 rfl) ?_
  refine lv_iconst (v := 2) hx hb d_L_law_569 (by decide) ?_
  refine lv_iadd hx hb d_L_law_570 ?_
  refine va_sld hx hb hXs hbl hbA hS (li_2 hj hL) d_L_law_571 ?_
  refine lv_aload_n hx hb d_L_law_572 rfl (lv_at hl 1 rfl) ?_
  refine lv_iload hx hb d_L_law_573 (lv_at hl 5 rfl) ?_
  refine lv_iconst (v := 3) hx hb d_L_law_575 (by decide) ?_
  refine lv_iadd hx hb d_L_law_576 ?_
  refine va_sld hx hb hXs hbl hbA hS (li_3 hj hL) d_L_law_577 ?_
  have hPc := hP.sub (ws' := wM B dd t) [11, 12, 13, 14, 15, 16, 17, 18, 19] rfl
  have hDc := hD.sub (ws' := wM B dd t) [11, 12, 13, 14, 15, 16, 17, 18, 19] (by decide) rfl
  have hKc := hK.sub (tys' := kM dd) [8, 9, 10, 11, 12, 13, 14, 15] rfl
  have hFc := va_free (wc := wM B dd t) hD hS hA [11, 12, 13, 14, 15, 16, 17, 18, 19] rfl
  refine va_calll (va_runV (As := [.int (xs (Int32.toNatClampNeg (nI j + 1))), .int (xs (Int32.toNatClampNeg (nI j + 2))), .int (xs (Int32.toNatClampNeg (nI j + 3)))]) (rest := []) ⟨hx, hb, hml, hown, hts⟩ (k_M_linear l D B dd t (xs (Int32.toNatClampNeg (nI j + 1))) (xs (Int32.toNatClampNeg (nI j + 2))) (xs (Int32.toNatClampNeg (nI j + 3))) _ (r1, t1) hf2) (cwV 3 hts (ga_V ww_658 ww_659 ww_660 ww_4 ww_661) rfl rfl rfl (by decide +kernel) ⟨by decide, by decide⟩) (pw_pre (q0 := 0) (ci := 3) hPc hKc hDc hN rfl rfl) rfl rfl hl.1 rfl (lv_room (Nat.le_of_ble_eq_true rfl)) d_L_law_578 ⟨hn, hk⟩) hS (fun q _ h => hFc q h) hFc (fun r9 u9 t9 H locs ht hvm hp hB hz1 hk1 hS => ?_)
  obtain ⟨hp1, hp2⟩ := Prod.mk.inj hp.symm
  subst hp1
  subst hp2
  obtain ⟨hP1, hK1, hD1⟩ := hB
  rw [ht] at hP1
  obtain ⟨hP, hD⟩ := va_join (wr := wX A cc (g1, o1)) (w1 := wM B dd t1) hP hD [11, 12, 13, 14, 15, 16, 17, 18, 19] [0, 1, 2, 3, 4, 5, 6, 7, 8, 9, 10] rfl rfl (by decide) (by decide) hk1 hFc hP1 hD1
  have hP : va_P D vwC (wL A cc B dd g1 o1 t1) H := hP
  have hD : va_D AA (wL A cc B dd g1 o1 t1) := hD
  refine lv_lstore hx hb d_L_law_581 hl (by decide) (lv' := [(6, .long r1), (5, .int k1), (0, .ref b), (1, .ref (A 0)), (2, .ref (B 0)), (3, .ref (A 10)), (4, .int (nI j))]) rfl (fun ls hl => ?_)
  refine lv_aload_n hx hb d_L_law_583 rfl (lv_at hl 4 rfl) ?_
  have hPc := hP.sub (ws' := wM B dd t1) [11, 12, 13, 14, 15, 16, 17, 18, 19] rfl
  have hDc := hD.sub (ws' := wM B dd t1) [11, 12, 13, 14, 15, 16, 17, 18, 19] (by decide) rfl
  have hKc := hK.sub (tys' := kM dd) [8, 9, 10, 11, 12, 13, 14, 15] rfl
  have hFc := va_free (wc := wM B dd t1) hD hS hA [11, 12, 13, 14, 15, 16, 17, 18, 19] rfl
  refine va_calli (va_runV (As := []) (rest := []) ⟨hx, hb, hml, hown, hts⟩ (k_M_thrown l D B dd t1 _ (t1.1, t1) rfl) (cwV 0 hts (ga_V ww_574 ww_575 ww_576 ww_4 ww_577) rfl rfl rfl (by decide +kernel) ⟨by decide, by decide⟩) (pw_pre (q0 := 0) (ci := 3) hPc hKc hDc hN rfl rfl) rfl rfl hl.1 rfl (lv_room (Nat.le_of_ble_eq_true rfl)) d_L_law_584 ⟨hn, hk⟩) hS (fun q _ h => hFc q h) hFc (fun r9 u9 t9 H locs ht hvm hp hB hz1 hk1 hS => ?_)
  obtain ⟨hp1, hp2⟩ := Prod.mk.inj hp.symm
  subst hp1
  subst hp2
  obtain ⟨hP1, hK1, hD1⟩ := hB
  rw [ht] at hP1
  obtain ⟨hP, hD⟩ := va_join (wr := wX A cc (g1, o1)) (w1 := wM B dd t1) hP hD [11, 12, 13, 14, 15, 16, 17, 18, 19] [0, 1, 2, 3, 4, 5, 6, 7, 8, 9, 10] rfl rfl (by decide) (by decide) hk1 hFc hP1 hD1
  have hP : va_P D vwC (wL A cc B dd g1 o1 t1) H := hP
  have hD : va_D AA (wL A cc B dd g1 o1 t1) := hD
  refine lv_iload hx hb d_L_law_587 (lv_at hl 1 rfl) ?_
  refine lv_icmp_eq hx hb d_L_law_589 (tgt := 594) (by decide) (fun h9 => ?_) (fun h9 => absurd hth h9)
  refine lv_iload hx hb d_L_law_594 (lv_at hl 1 rfl) ?_
  have w1 : W p l e room_1 s m #[Value.ref b] below meth c H locs (n0 + 1) (k0 + 6) Q (F0 m 610 ls []) := by
    refine lv_goto hx hb d_L_law_610 (tgt := 1665) (by decide) ?_
    exact kont g1 o1 t1 _ _ ls hI hP hD hS (lv_sub hl [2, 3, 4, 5, 6] rfl)
  refine lv_if_ne hx hb d_L_law_596 (tgt := 610) (by decide) (fun h9 => w1) (fun h9 => ?_)
  refine lv_aload_n hx hb d_L_law_599 rfl (lv_at hl 5 rfl) ?_
  refine lv_iconst (v := 0) hx hb d_L_law_600 (by decide) ?_
  refine va_lald hx hb hK hP 10 7 rfl rfl (show vp_in 0 1 by unfold vp_in; decide) d_L_law_601 ?_
  refine lv_lload hx hb d_L_law_602 (lv_at hl 0 rfl) ?_
  refine W.lcmp hx hb d_L_law_604 ?_
  exact lv_if_eq hx hb d_L_law_605 (tgt := 610) (by decide) (fun _ => w1) (fun h8 => absurd ((lg_cmp_eq _ _).mpr (hou h9)) h8)
set_option maxHeartbeats 4000000 in
set_option maxRecDepth 100000 in
theorem lw_sign {p : Program} {l : Launch} {e : Env} {s : State} {m : MethodId} {below : List Frame} {meth : Method} {c : Code} {b L : Nat} {xs : Nat → Int32} {D : va_G} {A : Nat → Nat} {cc : Nat → ClassId} {B : Nat → Nat} {dd : Nat → ClassId} {AA : Nat → Prop} {Q : State → Prop} (C0 : lc p l s m meth c b L xs D cc dd AA) {I : sK → sM → Prop} (hAG : ag_sign I) {g : sK} {o : Nat → Int64} {t : sM} (hI : I g t) {H : Heap} {locs : List Loc} (hP : va_P D vwC (wL A cc B dd g o t) H) (hD : va_D AA (wL A cc B dd g o t)) (hS : va_S AA s.heap H locs) {ls : Array Slot} {j : Nat} (hj : j + 7 ≤ L)
    (hl : lv_has ls 8 [(0, .ref b), (1, .ref (A 0)), (2, .ref (B 0)), (3, .ref (A 10)), (4, .int (nI j))]) {n0 k0 : Nat} (hn : n0 + 1 ≤ 1052) (hk : k0 + 6 ≤ 8410)
    (kont : ∀ (g : sK) (o : Nat → Int64) (t : sM) (H : Heap) (locs : List Loc) (ls : Array Slot), I g t → va_P D vwC (wL A cc B dd g o t) H → va_D AA (wL A cc B dd g o t) → va_S AA s.heap H locs → lv_has ls 8 [(0, .ref b), (1, .ref (A 0)), (2, .ref (B 0)), (3, .ref (A 10)), (4, .int (nI j))] → W p l e room_1 s m #[Value.ref b] below meth c H locs (n0 + 1) (k0 + 6) Q (F0 m 1665 ls [])) :
    W p l e room_1 s m #[Value.ref b] below meth c H locs n0 k0 Q (F0 m 613 ls []) := by
  obtain ⟨hx, hb, hml, hown, hts, hXs, hbl, hbA, hA, hN, hX, hC, hZ, hK, hlocks, hl0, hL⟩ := C0
  have hw : ∀ w ∈ wa, w.before _ s = true := fun w h => hts w (List.mem_cons_of_mem _ h)
  have hn0 : n0 + 0 ≤ 1052 := by omega
  have hk0 : k0 + 0 ≤ 8410 := by omega
  refine lv_aload_n hx hb d_L_law_613 rfl (lv_at hl 1 rfl) ?_
  refine lv_aload_n hx hb d_L_law_614 rfl (lv_at hl 0 rfl) ?_
  refine lv_iload hx hb d_L_law_615 (lv_at hl 4 rfl) ?_
  refine lv_iconst (v := 1) hx hb d_L_law_617 (by decide) ?_
  refine lv_iadd hx hb d_L_law_618 ?_
  refine va_sld hx hb hXs hbl hbA hS (li_1 hj hL) d_L_law_619 ?_
  refine lv_aload_n hx hb d_L_law_620 rfl (lv_at hl 0 rfl) ?_
  refine lv_iload hx hb d_L_law_621 (lv_at hl 4 rfl) ?_
  refine lv_iconst (v := 2) hx hb d_L_law_623 (by decide) ?_
  refine lv_iadd hx hb d_L_law_624 ?_
  refine va_sld hx hb hXs hbl hbA hS (li_2 hj hL) d_L_law_625 ?_
  refine lv_i2l (v := Int32.toInt64 (xs (Int32.toNatClampNeg (nI j + 2)))) hx hb d_L_law_626 rfl ?_
  refine lv_bipush (v := 32) hx hb d_L_law_627 (by decide) ?_
  refine lv_lshl (v := (Int32.toInt64 (xs (Int32.toNatClampNeg (nI j + 2)))) <<< ((Int32.toInt64 32) &&& 63)) hx hb d_L_law_629 rfl ?_
  refine lv_aload_n hx hb d_L_law_630 rfl (lv_at hl 0 rfl) ?_
  refine lv_iload hx hb d_L_law_631 (lv_at hl 4 rfl) ?_
  refine lv_iconst (v := 3) hx hb d_L_law_633 (by decide) ?_
  refine lv_iadd hx hb d_L_law_634 ?_
  refine va_sld hx hb hXs hbl hbA hS (li_3 hj hL) d_L_law_635 ?_
  refine lv_i2l (v := Int32.toInt64 (xs (Int32.toNatClampNeg (nI j + 3)))) hx hb d_L_law_636 rfl ?_
  refine lv_ldc2 (v := 4294967295) hx hb hown (hw _ ww_767) d_L_law_637 ?_
  refine lv_land hx hb d_L_law_640 ?_
  refine lv_lor hx hb d_L_law_641 ?_
  refine lv_aload_n hx hb d_L_law_642 rfl (lv_at hl 3 rfl) ?_
  obtain ⟨k1, r1, g1, o1, t1, hf1, hf2, hth, hou, hI⟩ := hAG g o t (xs (Int32.toNatClampNeg (nI j + 1))) (((Int32.toInt64 (xs (Int32.toNatClampNeg (nI j + 2)))) <<< ((Int32.toInt64 32) &&& 63)) ||| ((Int32.toInt64 (xs (Int32.toNatClampNeg (nI j + 3)))) &&& 4294967295)) hI
  have hPc := hP.sub (ws' := wX A cc (g, o)) [0, 1, 2, 3, 4, 5, 6, 7, 8, 9, 10] rfl
  have hDc := hD.sub (ws' := wX A cc (g, o)) [0, 1, 2, 3, 4, 5, 6, 7, 8, 9, 10] (by decide) rfl
  have hKc := hK.sub (tys' := kX cc) [0, 1, 2, 3, 4, 5, 6, 7] rfl
  have hFc := va_free (wc := wX A cc (g, o)) hD hS hA [0, 1, 2, 3, 4, 5, 6, 7, 8, 9, 10] rfl
  refine va_calli (vx_runSW (As := [.ref (A 0), .int (xs (Int32.toNatClampNeg (nI j + 1))), .long (((Int32.toInt64 (xs (Int32.toNatClampNeg (nI j + 2)))) <<< ((Int32.toInt64 32) &&& 63)) ||| ((Int32.toInt64 (xs (Int32.toNatClampNeg (nI j + 3)))) &&& 4294967295)), .ref (A 10)]) (rest := []) ⟨hx, hb, hml, hown, hts⟩ (k_L_sign l hl0 D A cc (g, o) (xs (Int32.toNatClampNeg (nI j + 1))) (((Int32.toInt64 (xs (Int32.toNatClampNeg (nI j + 2)))) <<< ((Int32.toInt64 32) &&& 63)) ||| ((Int32.toInt64 (xs (Int32.toNatClampNeg (nI j + 3)))) &&& 4294967295)) _ (k1, (g1, o1)) hf1) (vx_cwSW 4 hts (ga_S ww_385 ww_386 ww_0 ww_387) rfl rfl rfl (by decide +kernel) ⟨by decide, by decide⟩) (pwl_pre hPc hKc hDc hN hX hZ hC hS hFc) rfl rfl hl.1 rfl (lv_room (Nat.le_of_ble_eq_true rfl)) d_L_law_643 ⟨hn, hk⟩) hS (fun q _ h => hFc q h) hFc (fun r9 u9 t9 H locs ht hvm hp hB hz1 hk1 hS => ?_)
  obtain ⟨hp1, hp2⟩ := Prod.mk.inj hp.symm
  subst hp1
  subst hp2
  obtain ⟨hP1, hK1, hD1⟩ := hB
  rw [ht] at hP1
  obtain ⟨hP, hD⟩ := va_join (wr := wM B dd t) (w1 := wX A cc (g1, o1)) hP hD [0, 1, 2, 3, 4, 5, 6, 7, 8, 9, 10] [11, 12, 13, 14, 15, 16, 17, 18, 19] rfl rfl (by decide) (by decide) hk1 hFc hP1 hD1
  have hP := hP.sub (ws' := wL A cc B dd g1 o1 t) [9, 10, 11, 12, 13, 14, 15, 16, 17, 18, 19, 0, 1, 2, 3, 4, 5, 6, 7, 8] rfl
  have hD := hD.sub (ws' := wL A cc B dd g1 o1 t) [9, 10, 11, 12, 13, 14, 15, 16, 17, 18, 19, 0, 1, 2, 3, 4, 5, 6, 7, 8] (by decide) rfl
  refine lv_istore hx hb d_L_law_646 hl (by decide) (lv' := [(5, .int k1), (0, .ref b), (1, .ref (A 0)), (2, .ref (B 0)), (3, .ref (A 10)), (4, .int (nI j))]) rfl (fun ls hl => ?_)
  refine lv_aload_n hx hb d_L_law_648 rfl (lv_at hl 3 rfl) ?_
  refine lv_aload_n hx hb d_L_law_649 rfl (lv_at hl 1 rfl) ?_
  refine lv_iload hx hb d_L_law_650 (lv_at hl 5 rfl) ?_
  refine lv_iconst (v := 1) hx hb d_L_law_652 (by decide) ?_
  refine lv_iadd hx hb d_L_law_653 ?_
  refine va_sld hx hb hXs hbl hbA hS (li_1 hj hL) d_L_law_654 ?_
  refine lv_aload_n hx hb d_L_law_655 rfl (lv_at hl 1 rfl) ?_
  refine lv_iload hx hb d_L_law_656 (lv_at hl 5 rfl) ?_
  refine lv_iconst (v := 2) hx hb d_L_law_658 (by decide) ?_
  refine lv_iadd hx hb d_L_law_659 ?_
  refine va_sld hx hb hXs hbl hbA hS (li_2 hj hL) d_L_law_660 ?_
  refine lv_i2l (v := Int32.toInt64 (xs (Int32.toNatClampNeg (nI j + 2)))) hx hb d_L_law_661 rfl ?_
  refine lv_bipush (v := 32) hx hb d_L_law_662 (by decide) ?_
  refine lv_lshl (v := (Int32.toInt64 (xs (Int32.toNatClampNeg (nI j + 2)))) <<< ((Int32.toInt64 32) &&& 63)) hx hb d_L_law_664 rfl ?_
  refine lv_aload_n hx hb d_L_law_665 rfl (lv_at hl 1 rfl) ?_
  refine lv_iload hx hb d_L_law_666 (lv_at hl 5 rfl) ?_
  refine lv_iconst (v := 3) hx hb d_L_law_668 (by decide) ?_
  refine lv_iadd hx hb d_L_law_669 ?_
  refine va_sld hx hb hXs hbl hbA hS (li_3 hj hL) d_L_law_670 ?_
  refine lv_i2l (v := Int32.toInt64 (xs (Int32.toNatClampNeg (nI j + 3)))) hx hb d_L_law_671 rfl ?_
  refine lv_ldc2 (v := 4294967295) hx hb hown (hw _ ww_767) d_L_law_672 ?_
  refine lv_land hx hb d_L_law_675 ?_
  refine lv_lor hx hb d_L_law_676 ?_
  have hPc := hP.sub (ws' := wM B dd t) [11, 12, 13, 14, 15, 16, 17, 18, 19] rfl
  have hDc := hD.sub (ws' := wM B dd t) [11, 12, 13, 14, 15, 16, 17, 18, 19] (by decide) rfl
  have hKc := hK.sub (tys' := kM dd) [8, 9, 10, 11, 12, 13, 14, 15] rfl
  have hFc := va_free (wc := wM B dd t) hD hS hA [11, 12, 13, 14, 15, 16, 17, 18, 19] rfl
  refine va_calll (va_runV (As := [.int (xs (Int32.toNatClampNeg (nI j + 1))), .long (((Int32.toInt64 (xs (Int32.toNatClampNeg (nI j + 2)))) <<< ((Int32.toInt64 32) &&& 63)) ||| ((Int32.toInt64 (xs (Int32.toNatClampNeg (nI j + 3)))) &&& 4294967295))]) (rest := []) ⟨hx, hb, hml, hown, hts⟩ (k_M_sign l D B dd t (xs (Int32.toNatClampNeg (nI j + 1))) (((Int32.toInt64 (xs (Int32.toNatClampNeg (nI j + 2)))) <<< ((Int32.toInt64 32) &&& 63)) ||| ((Int32.toInt64 (xs (Int32.toNatClampNeg (nI j + 3)))) &&& 4294967295)) _ (r1, t1) hf2) (cwV 2 hts (ga_V ww_662 ww_663 ww_664 ww_4 ww_665) rfl rfl rfl (by decide +kernel) ⟨by decide, by decide⟩) (pw_pre (q0 := 0) (ci := 3) hPc hKc hDc hN rfl rfl) rfl rfl hl.1 rfl (lv_room (Nat.le_of_ble_eq_true rfl)) d_L_law_677 ⟨hn, hk⟩) hS (fun q _ h => hFc q h) hFc (fun r9 u9 t9 H locs ht hvm hp hB hz1 hk1 hS => ?_)
  obtain ⟨hp1, hp2⟩ := Prod.mk.inj hp.symm
  subst hp1
  subst hp2
  obtain ⟨hP1, hK1, hD1⟩ := hB
  rw [ht] at hP1
  obtain ⟨hP, hD⟩ := va_join (wr := wX A cc (g1, o1)) (w1 := wM B dd t1) hP hD [11, 12, 13, 14, 15, 16, 17, 18, 19] [0, 1, 2, 3, 4, 5, 6, 7, 8, 9, 10] rfl rfl (by decide) (by decide) hk1 hFc hP1 hD1
  have hP : va_P D vwC (wL A cc B dd g1 o1 t1) H := hP
  have hD : va_D AA (wL A cc B dd g1 o1 t1) := hD
  refine lv_lstore hx hb d_L_law_680 hl (by decide) (lv' := [(6, .long r1), (5, .int k1), (0, .ref b), (1, .ref (A 0)), (2, .ref (B 0)), (3, .ref (A 10)), (4, .int (nI j))]) rfl (fun ls hl => ?_)
  refine lv_aload_n hx hb d_L_law_682 rfl (lv_at hl 4 rfl) ?_
  have hPc := hP.sub (ws' := wM B dd t1) [11, 12, 13, 14, 15, 16, 17, 18, 19] rfl
  have hDc := hD.sub (ws' := wM B dd t1) [11, 12, 13, 14, 15, 16, 17, 18, 19] (by decide) rfl
  have hKc := hK.sub (tys' := kM dd) [8, 9, 10, 11, 12, 13, 14, 15] rfl
  have hFc := va_free (wc := wM B dd t1) hD hS hA [11, 12, 13, 14, 15, 16, 17, 18, 19] rfl
  refine va_calli (va_runV (As := []) (rest := []) ⟨hx, hb, hml, hown, hts⟩ (k_M_thrown l D B dd t1 _ (t1.1, t1) rfl) (cwV 0 hts (ga_V ww_574 ww_575 ww_576 ww_4 ww_577) rfl rfl rfl (by decide +kernel) ⟨by decide, by decide⟩) (pw_pre (q0 := 0) (ci := 3) hPc hKc hDc hN rfl rfl) rfl rfl hl.1 rfl (lv_room (Nat.le_of_ble_eq_true rfl)) d_L_law_683 ⟨hn, hk⟩) hS (fun q _ h => hFc q h) hFc (fun r9 u9 t9 H locs ht hvm hp hB hz1 hk1 hS => ?_)
  obtain ⟨hp1, hp2⟩ := Prod.mk.inj hp.symm
  subst hp1
  subst hp2
  obtain ⟨hP1, hK1, hD1⟩ := hB
  rw [ht] at hP1
  obtain ⟨hP, hD⟩ := va_join (wr := wX A cc (g1, o1)) (w1 := wM B dd t1) hP hD [11, 12, 13, 14, 15, 16, 17, 18, 19] [0, 1, 2, 3, 4, 5, 6, 7, 8, 9, 10] rfl rfl (by decide) (by decide) hk1 hFc hP1 hD1
  have hP : va_P D vwC (wL A cc B dd g1 o1 t1) H := hP
  have hD : va_D AA (wL A cc B dd g1 o1 t1) := hD
  refine lv_iload hx hb d_L_law_686 (lv_at hl 1 rfl) ?_
  refine lv_icmp_eq hx hb d_L_law_688 (tgt := 693) (by decide) (fun h9 => ?_) (fun h9 => absurd hth h9)
  refine lv_iload hx hb d_L_law_693 (lv_at hl 1 rfl) ?_
  have w1 : W p l e room_1 s m #[Value.ref b] below meth c H locs (n0 + 1) (k0 + 6) Q (F0 m 709 ls []) := by
    refine lv_goto hx hb d_L_law_709 (tgt := 1665) (by decide) ?_
    exact kont g1 o1 t1 _ _ ls hI hP hD hS (lv_sub hl [2, 3, 4, 5, 6] rfl)
  refine lv_if_ne hx hb d_L_law_695 (tgt := 709) (by decide) (fun h9 => w1) (fun h9 => ?_)
  refine lv_aload_n hx hb d_L_law_698 rfl (lv_at hl 5 rfl) ?_
  refine lv_iconst (v := 0) hx hb d_L_law_699 (by decide) ?_
  refine va_lald hx hb hK hP 10 7 rfl rfl (show vp_in 0 1 by unfold vp_in; decide) d_L_law_700 ?_
  refine lv_lload hx hb d_L_law_701 (lv_at hl 0 rfl) ?_
  refine W.lcmp hx hb d_L_law_703 ?_
  exact lv_if_eq hx hb d_L_law_704 (tgt := 709) (by decide) (fun _ => w1) (fun h8 => absurd ((lg_cmp_eq _ _).mpr (hou h9)) h8)
set_option maxHeartbeats 4000000 in
set_option maxRecDepth 100000 in
theorem lw_mark {p : Program} {l : Launch} {e : Env} {s : State} {m : MethodId} {below : List Frame} {meth : Method} {c : Code} {b L : Nat} {xs : Nat → Int32} {D : va_G} {A : Nat → Nat} {cc : Nat → ClassId} {B : Nat → Nat} {dd : Nat → ClassId} {AA : Nat → Prop} {Q : State → Prop} (C0 : lc p l s m meth c b L xs D cc dd AA) {I : sK → sM → Prop} (hAG : ag_mark I) {g : sK} {o : Nat → Int64} {t : sM} (hI : I g t) {H : Heap} {locs : List Loc} (hP : va_P D vwC (wL A cc B dd g o t) H) (hD : va_D AA (wL A cc B dd g o t)) (hS : va_S AA s.heap H locs) {ls : Array Slot} {j : Nat} (hj : j + 7 ≤ L)
    (hl : lv_has ls 8 [(0, .ref b), (1, .ref (A 0)), (2, .ref (B 0)), (3, .ref (A 10)), (4, .int (nI j))]) {n0 k0 : Nat} (hn : n0 + 1 ≤ 1052) (hk : k0 + 6 ≤ 8410)
    (kont : ∀ (g : sK) (o : Nat → Int64) (t : sM) (H : Heap) (locs : List Loc) (ls : Array Slot), I g t → va_P D vwC (wL A cc B dd g o t) H → va_D AA (wL A cc B dd g o t) → va_S AA s.heap H locs → lv_has ls 8 [(0, .ref b), (1, .ref (A 0)), (2, .ref (B 0)), (3, .ref (A 10)), (4, .int (nI j))] → W p l e room_1 s m #[Value.ref b] below meth c H locs (n0 + 1) (k0 + 6) Q (F0 m 1665 ls [])) :
    W p l e room_1 s m #[Value.ref b] below meth c H locs n0 k0 Q (F0 m 712 ls []) := by
  obtain ⟨hx, hb, hml, hown, hts, hXs, hbl, hbA, hA, hN, hX, hC, hZ, hK, hlocks, hl0, hL⟩ := C0
  have hw : ∀ w ∈ wa, w.before _ s = true := fun w h => hts w (List.mem_cons_of_mem _ h)
  have hn0 : n0 + 0 ≤ 1052 := by omega
  have hk0 : k0 + 0 ≤ 8410 := by omega
  refine lv_aload_n hx hb d_L_law_712 rfl (lv_at hl 1 rfl) ?_
  obtain ⟨r1, g1, t1, hf1, hf2, hI⟩ := hAG g t  hI
  have hPc := hP.sub (ws' := wK A cc g) [0, 1, 2, 3, 4, 5, 6, 7, 8, 9] rfl
  have hDc := hD.sub (ws' := wK A cc g) [0, 1, 2, 3, 4, 5, 6, 7, 8, 9] (by decide) rfl
  have hKc := hK.sub (tys' := kK cc) [0, 1, 2, 3, 4, 5, 6] rfl
  have hFc := va_free (wc := wK A cc g) hD hS hA [0, 1, 2, 3, 4, 5, 6, 7, 8, 9] rfl
  refine va_calli (va_runV (As := []) (rest := []) ⟨hx, hb, hml, hown, hts⟩ (k_K_mark l D A cc g  _ (r1, g1) hf1) (cwV 0 hts (ga_V ww_112 ww_113 ww_114 ww_1 ww_115) rfl rfl rfl (by decide +kernel) ⟨by decide, by decide⟩) (pw_pre (q0 := 0) (ci := 2) hPc hKc hDc hN rfl rfl) rfl rfl hl.1 rfl (lv_room (Nat.le_of_ble_eq_true rfl)) d_L_law_713 ⟨hn0, hk0⟩) hS (fun q _ h => hFc q h) hFc (fun r9 u9 t9 H locs ht hvm hp hB hz1 hk1 hS => ?_)
  obtain ⟨hp1, hp2⟩ := Prod.mk.inj hp.symm
  subst hp1
  subst hp2
  obtain ⟨hP1, hK1, hD1⟩ := hB
  rw [ht] at hP1
  obtain ⟨hP, hD⟩ := va_join (wr := [(A 10, .inl (cc 10, 1, .inr (.inl o))), (B 0, .inr (3, [.int t.1, .ref (B 1), .ref (B 2), .int t.2.2.2.1, .int t.2.2.2.2.1, .ref (B 3), .ref (B 4), .ref (B 5), .ref (B 6), .int t.2.2.2.2.2.2.2.2.2.1, .ref (B 7), .int t.2.2.2.2.2.2.2.2.2.2.2.1, .ref (B 8)])), (B 1, .inl (dd 1, 6, .inr (.inl t.2.1))), (B 2, .inl (dd 2, 6, .inr (.inl t.2.2.1))), (B 3, .inl (dd 3, 8, .inr (.inl t.2.2.2.2.2.1))), (B 4, .inl (dd 4, 8, .inr (.inl t.2.2.2.2.2.2.1))), (B 5, .inl (dd 5, 8, .inl t.2.2.2.2.2.2.2.1)), (B 6, .inl (dd 6, 8, .inl t.2.2.2.2.2.2.2.2.1)), (B 7, .inl (dd 7, 20, .inl t.2.2.2.2.2.2.2.2.2.2.1)), (B 8, .inl (dd 8, 16, .inl t.2.2.2.2.2.2.2.2.2.2.2.2))]) (w1 := wK A cc g1) hP hD [0, 1, 2, 3, 4, 5, 6, 7, 8, 9] [10, 11, 12, 13, 14, 15, 16, 17, 18, 19] rfl rfl (by decide) (by decide) hk1 hFc hP1 hD1
  have hP := hP.sub (ws' := wL A cc B dd g1 o t) [10, 11, 12, 13, 14, 15, 16, 17, 18, 19, 0, 1, 2, 3, 4, 5, 6, 7, 8, 9] rfl
  have hD := hD.sub (ws' := wL A cc B dd g1 o t) [10, 11, 12, 13, 14, 15, 16, 17, 18, 19, 0, 1, 2, 3, 4, 5, 6, 7, 8, 9] (by decide) rfl
  refine lv_aload_n hx hb d_L_law_716 rfl (lv_at hl 2 rfl) ?_
  have hPc := hP.sub (ws' := wM B dd t) [11, 12, 13, 14, 15, 16, 17, 18, 19] rfl
  have hDc := hD.sub (ws' := wM B dd t) [11, 12, 13, 14, 15, 16, 17, 18, 19] (by decide) rfl
  have hKc := hK.sub (tys' := kM dd) [8, 9, 10, 11, 12, 13, 14, 15] rfl
  have hFc := va_free (wc := wM B dd t) hD hS hA [11, 12, 13, 14, 15, 16, 17, 18, 19] rfl
  refine va_calli (va_runV (As := []) (rest := [.int r1]) ⟨hx, hb, hml, hown, hts⟩ (k_M_mark l D B dd t  _ (r1, t1) hf2) (cwV 0 hts (ga_V ww_684 ww_685 ww_686 ww_4 ww_687) rfl rfl rfl (by decide +kernel) ⟨by decide, by decide⟩) (pw_pre (q0 := 0) (ci := 3) hPc hKc hDc hN rfl rfl) rfl rfl hl.1 rfl (lv_room (Nat.le_of_ble_eq_true rfl)) d_L_law_717 ⟨hn0, hk0⟩) hS (fun q _ h => hFc q h) hFc (fun r9 u9 t9 H locs ht hvm hp hB hz1 hk1 hS => ?_)
  obtain ⟨hp1, hp2⟩ := Prod.mk.inj hp.symm
  subst hp1
  subst hp2
  obtain ⟨hP1, hK1, hD1⟩ := hB
  rw [ht] at hP1
  obtain ⟨hP, hD⟩ := va_join (wr := wX A cc (g1, o)) (w1 := wM B dd t1) hP hD [11, 12, 13, 14, 15, 16, 17, 18, 19] [0, 1, 2, 3, 4, 5, 6, 7, 8, 9, 10] rfl rfl (by decide) (by decide) hk1 hFc hP1 hD1
  have hP : va_P D vwC (wL A cc B dd g1 o t1) H := hP
  have hD : va_D AA (wL A cc B dd g1 o t1) := hD
  refine lv_icmp_eq hx hb d_L_law_720 (tgt := 1665) (by decide) (fun h9 => ?_) (fun h9 => absurd rfl h9)
  refine W.widen (k := n0 + 1) (n := k0 + 6) (Nat.le_add_right _ _) (Nat.le_add_right _ _) ?_
  exact kont g1 o t1 _ _ ls hI hP hD hS (lv_sub hl [0, 1, 2, 3, 4] rfl)
set_option maxHeartbeats 4000000 in
set_option maxRecDepth 100000 in
theorem lw_good {p : Program} {l : Launch} {e : Env} {s : State} {m : MethodId} {below : List Frame} {meth : Method} {c : Code} {b L : Nat} {xs : Nat → Int32} {D : va_G} {A : Nat → Nat} {cc : Nat → ClassId} {B : Nat → Nat} {dd : Nat → ClassId} {AA : Nat → Prop} {Q : State → Prop} (C0 : lc p l s m meth c b L xs D cc dd AA) {I : sK → sM → Prop} (hAG : ag_good I) {g : sK} {o : Nat → Int64} {t : sM} (hI : I g t) {H : Heap} {locs : List Loc} (hP : va_P D vwC (wL A cc B dd g o t) H) (hD : va_D AA (wL A cc B dd g o t)) (hS : va_S AA s.heap H locs) {ls : Array Slot} {j : Nat} (hj : j + 7 ≤ L)
    (hl : lv_has ls 8 [(0, .ref b), (1, .ref (A 0)), (2, .ref (B 0)), (3, .ref (A 10)), (4, .int (nI j))]) {n0 k0 : Nat} (hn : n0 + 1 ≤ 1052) (hk : k0 + 6 ≤ 8410)
    (kont : ∀ (g : sK) (o : Nat → Int64) (t : sM) (H : Heap) (locs : List Loc) (ls : Array Slot), I g t → va_P D vwC (wL A cc B dd g o t) H → va_D AA (wL A cc B dd g o t) → va_S AA s.heap H locs → lv_has ls 8 [(0, .ref b), (1, .ref (A 0)), (2, .ref (B 0)), (3, .ref (A 10)), (4, .int (nI j))] → W p l e room_1 s m #[Value.ref b] below meth c H locs (n0 + 1) (k0 + 6) Q (F0 m 1665 ls [])) :
    W p l e room_1 s m #[Value.ref b] below meth c H locs n0 k0 Q (F0 m 725 ls []) := by
  obtain ⟨hx, hb, hml, hown, hts, hXs, hbl, hbA, hA, hN, hX, hC, hZ, hK, hlocks, hl0, hL⟩ := C0
  have hw : ∀ w ∈ wa, w.before _ s = true := fun w h => hts w (List.mem_cons_of_mem _ h)
  have hn0 : n0 + 0 ≤ 1052 := by omega
  have hk0 : k0 + 0 ≤ 8410 := by omega
  refine lv_aload_n hx hb d_L_law_725 rfl (lv_at hl 1 rfl) ?_
  refine lv_aload_n hx hb d_L_law_726 rfl (lv_at hl 0 rfl) ?_
  refine lv_iload hx hb d_L_law_727 (lv_at hl 4 rfl) ?_
  refine lv_iconst (v := 1) hx hb d_L_law_729 (by decide) ?_
  refine lv_iadd hx hb d_L_law_730 ?_
  refine va_sld hx hb hXs hbl hbA hS (li_1 hj hL) d_L_law_731 ?_
  refine lv_aload_n hx hb d_L_law_732 rfl (lv_at hl 0 rfl) ?_
  refine lv_iload hx hb d_L_law_733 (lv_at hl 4 rfl) ?_
  refine lv_iconst (v := 2) hx hb d_L_law_735 (by decide) ?_
  refine lv_iadd hx hb d_L_law_736 ?_
  refine va_sld hx hb hXs hbl hbA hS (li_2 hj hL) d_L_law_737 ?_
  refine lv_i2l (v := Int32.toInt64 (xs (Int32.toNatClampNeg (nI j + 2)))) hx hb d_L_law_738 rfl ?_
  refine lv_bipush (v := 32) hx hb d_L_law_739 (by decide) ?_
  refine lv_lshl (v := (Int32.toInt64 (xs (Int32.toNatClampNeg (nI j + 2)))) <<< ((Int32.toInt64 32) &&& 63)) hx hb d_L_law_741 rfl ?_
  refine lv_aload_n hx hb d_L_law_742 rfl (lv_at hl 0 rfl) ?_
  refine lv_iload hx hb d_L_law_743 (lv_at hl 4 rfl) ?_
  refine lv_iconst (v := 3) hx hb d_L_law_745 (by decide) ?_
  refine lv_iadd hx hb d_L_law_746 ?_
  refine va_sld hx hb hXs hbl hbA hS (li_3 hj hL) d_L_law_747 ?_
  refine lv_i2l (v := Int32.toInt64 (xs (Int32.toNatClampNeg (nI j + 3)))) hx hb d_L_law_748 rfl ?_
  refine lv_ldc2 (v := 4294967295) hx hb hown (hw _ ww_767) d_L_law_749 ?_
  refine lv_land hx hb d_L_law_752 ?_
  refine lv_lor hx hb d_L_law_753 ?_
  refine lv_aload_n hx hb d_L_law_754 rfl (lv_at hl 0 rfl) ?_
  refine lv_iload hx hb d_L_law_755 (lv_at hl 4 rfl) ?_
  refine lv_iconst (v := 4) hx hb d_L_law_757 (by decide) ?_
  refine lv_iadd hx hb d_L_law_758 ?_
  refine va_sld hx hb hXs hbl hbA hS (li_4 hj hL) d_L_law_759 ?_
  refine lv_aload_n hx hb d_L_law_760 rfl (lv_at hl 0 rfl) ?_
  refine lv_iload hx hb d_L_law_761 (lv_at hl 4 rfl) ?_
  refine lv_iconst (v := 5) hx hb d_L_law_763 (by decide) ?_
  refine lv_iadd hx hb d_L_law_764 ?_
  refine va_sld hx hb hXs hbl hbA hS (li_5 hj hL) d_L_law_765 ?_
  refine lv_aload_n hx hb d_L_law_766 rfl (lv_at hl 3 rfl) ?_
  obtain ⟨k1, r1, g1, o1, t1, hf1, hf2, hth, hou, hI⟩ := hAG g o t (xs (Int32.toNatClampNeg (nI j + 1))) (((Int32.toInt64 (xs (Int32.toNatClampNeg (nI j + 2)))) <<< ((Int32.toInt64 32) &&& 63)) ||| ((Int32.toInt64 (xs (Int32.toNatClampNeg (nI j + 3)))) &&& 4294967295)) (xs (Int32.toNatClampNeg (nI j + 4))) (xs (Int32.toNatClampNeg (nI j + 5))) hI
  have hPc := hP.sub (ws' := wX A cc (g, o)) [0, 1, 2, 3, 4, 5, 6, 7, 8, 9, 10] rfl
  have hDc := hD.sub (ws' := wX A cc (g, o)) [0, 1, 2, 3, 4, 5, 6, 7, 8, 9, 10] (by decide) rfl
  have hKc := hK.sub (tys' := kX cc) [0, 1, 2, 3, 4, 5, 6, 7] rfl
  have hFc := va_free (wc := wX A cc (g, o)) hD hS hA [0, 1, 2, 3, 4, 5, 6, 7, 8, 9, 10] rfl
  refine va_calli (vx_runSW (As := [.ref (A 0), .int (xs (Int32.toNatClampNeg (nI j + 1))), .long (((Int32.toInt64 (xs (Int32.toNatClampNeg (nI j + 2)))) <<< ((Int32.toInt64 32) &&& 63)) ||| ((Int32.toInt64 (xs (Int32.toNatClampNeg (nI j + 3)))) &&& 4294967295)), .int (xs (Int32.toNatClampNeg (nI j + 4))), .int (xs (Int32.toNatClampNeg (nI j + 5))), .ref (A 10)]) (rest := []) ⟨hx, hb, hml, hown, hts⟩ (k_L_good l hl0 D A cc (g, o) (xs (Int32.toNatClampNeg (nI j + 1))) (((Int32.toInt64 (xs (Int32.toNatClampNeg (nI j + 2)))) <<< ((Int32.toInt64 32) &&& 63)) ||| ((Int32.toInt64 (xs (Int32.toNatClampNeg (nI j + 3)))) &&& 4294967295)) (xs (Int32.toNatClampNeg (nI j + 4))) (xs (Int32.toNatClampNeg (nI j + 5))) _ (k1, (g1, o1)) hf1) (vx_cwSW 6 hts (ga_S ww_442 ww_443 ww_0 ww_444) rfl rfl rfl (by decide +kernel) ⟨by decide, by decide⟩) (pwl_pre hPc hKc hDc hN hX hZ hC hS hFc) rfl rfl hl.1 rfl (lv_room (Nat.le_of_ble_eq_true rfl)) d_L_law_767 ⟨hn, hk⟩) hS (fun q _ h => hFc q h) hFc (fun r9 u9 t9 H locs ht hvm hp hB hz1 hk1 hS => ?_)
  obtain ⟨hp1, hp2⟩ := Prod.mk.inj hp.symm
  subst hp1
  subst hp2
  obtain ⟨hP1, hK1, hD1⟩ := hB
  rw [ht] at hP1
  obtain ⟨hP, hD⟩ := va_join (wr := wM B dd t) (w1 := wX A cc (g1, o1)) hP hD [0, 1, 2, 3, 4, 5, 6, 7, 8, 9, 10] [11, 12, 13, 14, 15, 16, 17, 18, 19] rfl rfl (by decide) (by decide) hk1 hFc hP1 hD1
  have hP := hP.sub (ws' := wL A cc B dd g1 o1 t) [9, 10, 11, 12, 13, 14, 15, 16, 17, 18, 19, 0, 1, 2, 3, 4, 5, 6, 7, 8] rfl
  have hD := hD.sub (ws' := wL A cc B dd g1 o1 t) [9, 10, 11, 12, 13, 14, 15, 16, 17, 18, 19, 0, 1, 2, 3, 4, 5, 6, 7, 8] (by decide) rfl
  refine lv_istore hx hb d_L_law_770 hl (by decide) (lv' := [(5, .int k1), (0, .ref b), (1, .ref (A 0)), (2, .ref (B 0)), (3, .ref (A 10)), (4, .int (nI j))]) rfl (fun ls hl => ?_)
  refine lv_aload_n hx hb d_L_law_772 rfl (lv_at hl 3 rfl) ?_
  refine lv_aload_n hx hb d_L_law_773 rfl (lv_at hl 1 rfl) ?_
  refine lv_iload hx hb d_L_law_774 (lv_at hl 5 rfl) ?_
  refine lv_iconst (v := 1) hx hb d_L_law_776 (by decide) ?_
  refine lv_iadd hx hb d_L_law_777 ?_
  refine va_sld hx hb hXs hbl hbA hS (li_1 hj hL) d_L_law_778 ?_
  refine lv_aload_n hx hb d_L_law_779 rfl (lv_at hl 1 rfl) ?_
  refine lv_iload hx hb d_L_law_780 (lv_at hl 5 rfl) ?_
  refine lv_iconst (v := 2) hx hb d_L_law_782 (by decide) ?_
  refine lv_iadd hx hb d_L_law_783 ?_
  refine va_sld hx hb hXs hbl hbA hS (li_2 hj hL) d_L_law_784 ?_
  refine lv_i2l (v := Int32.toInt64 (xs (Int32.toNatClampNeg (nI j + 2)))) hx hb d_L_law_785 rfl ?_
  refine lv_bipush (v := 32) hx hb d_L_law_786 (by decide) ?_
  refine lv_lshl (v := (Int32.toInt64 (xs (Int32.toNatClampNeg (nI j + 2)))) <<< ((Int32.toInt64 32) &&& 63)) hx hb d_L_law_788 rfl ?_
  refine lv_aload_n hx hb d_L_law_789 rfl (lv_at hl 1 rfl) ?_
  refine lv_iload hx hb d_L_law_790 (lv_at hl 5 rfl) ?_
  refine lv_iconst (v := 3) hx hb d_L_law_792 (by decide) ?_
  refine lv_iadd hx hb d_L_law_793 ?_
  refine va_sld hx hb hXs hbl hbA hS (li_3 hj hL) d_L_law_794 ?_
  refine lv_i2l (v := Int32.toInt64 (xs (Int32.toNatClampNeg (nI j + 3)))) hx hb d_L_law_795 rfl ?_
  refine lv_ldc2 (v := 4294967295) hx hb hown (hw _ ww_767) d_L_law_796 ?_
  refine lv_land hx hb d_L_law_799 ?_
  refine lv_lor hx hb d_L_law_800 ?_
  refine lv_aload_n hx hb d_L_law_801 rfl (lv_at hl 1 rfl) ?_
  refine lv_iload hx hb d_L_law_802 (lv_at hl 5 rfl) ?_
  refine lv_iconst (v := 4) hx hb d_L_law_804 (by decide) ?_
  refine lv_iadd hx hb d_L_law_805 ?_
  refine va_sld hx hb hXs hbl hbA hS (li_4 hj hL) d_L_law_806 ?_
  refine lv_aload_n hx hb d_L_law_807 rfl (lv_at hl 1 rfl) ?_
  refine lv_iload hx hb d_L_law_808 (lv_at hl 5 rfl) ?_
  refine lv_iconst (v := 5) hx hb d_L_law_810 (by decide) ?_
  refine lv_iadd hx hb d_L_law_811 ?_
  refine va_sld hx hb hXs hbl hbA hS (li_5 hj hL) d_L_law_812 ?_
  have hPc := hP.sub (ws' := wM B dd t) [11, 12, 13, 14, 15, 16, 17, 18, 19] rfl
  have hDc := hD.sub (ws' := wM B dd t) [11, 12, 13, 14, 15, 16, 17, 18, 19] (by decide) rfl
  have hKc := hK.sub (tys' := kM dd) [8, 9, 10, 11, 12, 13, 14, 15] rfl
  have hFc := va_free (wc := wM B dd t) hD hS hA [11, 12, 13, 14, 15, 16, 17, 18, 19] rfl
  refine va_calli (va_runV (As := [.int (xs (Int32.toNatClampNeg (nI j + 1))), .long (((Int32.toInt64 (xs (Int32.toNatClampNeg (nI j + 2)))) <<< ((Int32.toInt64 32) &&& 63)) ||| ((Int32.toInt64 (xs (Int32.toNatClampNeg (nI j + 3)))) &&& 4294967295)), .int (xs (Int32.toNatClampNeg (nI j + 4))), .int (xs (Int32.toNatClampNeg (nI j + 5)))]) (rest := []) ⟨hx, hb, hml, hown, hts⟩ (k_M_good l D B dd t (xs (Int32.toNatClampNeg (nI j + 1))) (((Int32.toInt64 (xs (Int32.toNatClampNeg (nI j + 2)))) <<< ((Int32.toInt64 32) &&& 63)) ||| ((Int32.toInt64 (xs (Int32.toNatClampNeg (nI j + 3)))) &&& 4294967295)) (xs (Int32.toNatClampNeg (nI j + 4))) (xs (Int32.toNatClampNeg (nI j + 5))) _ (r1, t1) hf2) (cwV 4 hts (ga_V ww_688 ww_689 ww_690 ww_4 ww_691) rfl rfl rfl (by decide +kernel) ⟨by decide, by decide⟩) (pw_pre (q0 := 0) (ci := 3) hPc hKc hDc hN rfl rfl) rfl rfl hl.1 rfl (lv_room (Nat.le_of_ble_eq_true rfl)) d_L_law_813 ⟨hn, hk⟩) hS (fun q _ h => hFc q h) hFc (fun r9 u9 t9 H locs ht hvm hp hB hz1 hk1 hS => ?_)
  obtain ⟨hp1, hp2⟩ := Prod.mk.inj hp.symm
  subst hp1
  subst hp2
  obtain ⟨hP1, hK1, hD1⟩ := hB
  rw [ht] at hP1
  obtain ⟨hP, hD⟩ := va_join (wr := wX A cc (g1, o1)) (w1 := wM B dd t1) hP hD [11, 12, 13, 14, 15, 16, 17, 18, 19] [0, 1, 2, 3, 4, 5, 6, 7, 8, 9, 10] rfl rfl (by decide) (by decide) hk1 hFc hP1 hD1
  have hP : va_P D vwC (wL A cc B dd g1 o1 t1) H := hP
  have hD : va_D AA (wL A cc B dd g1 o1 t1) := hD
  refine lv_istore hx hb d_L_law_816 hl (by decide) (lv' := [(6, .int r1), (5, .int k1), (0, .ref b), (1, .ref (A 0)), (2, .ref (B 0)), (3, .ref (A 10)), (4, .int (nI j))]) rfl (fun ls hl => ?_)
  refine lv_aload_n hx hb d_L_law_818 rfl (lv_at hl 4 rfl) ?_
  have hPc := hP.sub (ws' := wM B dd t1) [11, 12, 13, 14, 15, 16, 17, 18, 19] rfl
  have hDc := hD.sub (ws' := wM B dd t1) [11, 12, 13, 14, 15, 16, 17, 18, 19] (by decide) rfl
  have hKc := hK.sub (tys' := kM dd) [8, 9, 10, 11, 12, 13, 14, 15] rfl
  have hFc := va_free (wc := wM B dd t1) hD hS hA [11, 12, 13, 14, 15, 16, 17, 18, 19] rfl
  refine va_calli (va_runV (As := []) (rest := []) ⟨hx, hb, hml, hown, hts⟩ (k_M_thrown l D B dd t1 _ (t1.1, t1) rfl) (cwV 0 hts (ga_V ww_574 ww_575 ww_576 ww_4 ww_577) rfl rfl rfl (by decide +kernel) ⟨by decide, by decide⟩) (pw_pre (q0 := 0) (ci := 3) hPc hKc hDc hN rfl rfl) rfl rfl hl.1 rfl (lv_room (Nat.le_of_ble_eq_true rfl)) d_L_law_819 ⟨hn, hk⟩) hS (fun q _ h => hFc q h) hFc (fun r9 u9 t9 H locs ht hvm hp hB hz1 hk1 hS => ?_)
  obtain ⟨hp1, hp2⟩ := Prod.mk.inj hp.symm
  subst hp1
  subst hp2
  obtain ⟨hP1, hK1, hD1⟩ := hB
  rw [ht] at hP1
  obtain ⟨hP, hD⟩ := va_join (wr := wX A cc (g1, o1)) (w1 := wM B dd t1) hP hD [11, 12, 13, 14, 15, 16, 17, 18, 19] [0, 1, 2, 3, 4, 5, 6, 7, 8, 9, 10] rfl rfl (by decide) (by decide) hk1 hFc hP1 hD1
  have hP : va_P D vwC (wL A cc B dd g1 o1 t1) H := hP
  have hD : va_D AA (wL A cc B dd g1 o1 t1) := hD
  refine lv_iload hx hb d_L_law_822 (lv_at hl 1 rfl) ?_
  refine lv_icmp_eq hx hb d_L_law_824 (tgt := 829) (by decide) (fun h9 => ?_) (fun h9 => absurd hth h9)
  refine lv_iload hx hb d_L_law_829 (lv_at hl 1 rfl) ?_
  have w1 : W p l e room_1 s m #[Value.ref b] below meth c H locs (n0 + 1) (k0 + 6) Q (F0 m 853 ls []) := by
    refine lv_goto hx hb d_L_law_853 (tgt := 1665) (by decide) ?_
    exact kont g1 o1 t1 _ _ ls hI hP hD hS (lv_sub hl [2, 3, 4, 5, 6] rfl)
  refine lv_if_ne hx hb d_L_law_831 (tgt := 853) (by decide) (fun h9 => w1) (fun h9 => ?_)
  refine lv_aload_n hx hb d_L_law_834 rfl (lv_at hl 5 rfl) ?_
  refine lv_iconst (v := 0) hx hb d_L_law_835 (by decide) ?_
  refine va_lald hx hb hK hP 10 7 rfl rfl (show vp_in 0 1 by unfold vp_in; decide) d_L_law_836 ?_
  refine lv_iload hx hb d_L_law_837 (lv_at hl 0 rfl) ?_
  refine lv_if_eq hx hb d_L_law_839 (tgt := 846) (by decide) (fun h7 => ?_) (fun h7 => ?_)
  · skip
    refine lv_lconst (v := 0) hx hb d_L_law_846 (by decide) ?_
    refine W.lcmp hx hb d_L_law_847 ?_
    exact lv_if_eq hx hb d_L_law_848 (tgt := 853) (by decide) (fun _ => w1) (fun h8 => absurd ((lg_cmp_eq _ _).mpr ((hou h9).trans (if_pos h7))) h8)
  · skip
    refine lv_lconst (v := 1) hx hb d_L_law_842 (by decide) ?_
    refine lv_goto hx hb d_L_law_843 (tgt := 847) (by decide) ?_
    refine W.lcmp hx hb d_L_law_847 ?_
    exact lv_if_eq hx hb d_L_law_848 (tgt := 853) (by decide) (fun _ => w1) (fun h8 => absurd ((lg_cmp_eq _ _).mpr ((hou h9).trans (if_neg h7))) h8)
set_option maxHeartbeats 4000000 in
set_option maxRecDepth 100000 in
theorem lw_recover {p : Program} {l : Launch} {e : Env} {s : State} {m : MethodId} {below : List Frame} {meth : Method} {c : Code} {b L : Nat} {xs : Nat → Int32} {D : va_G} {A : Nat → Nat} {cc : Nat → ClassId} {B : Nat → Nat} {dd : Nat → ClassId} {AA : Nat → Prop} {Q : State → Prop} (C0 : lc p l s m meth c b L xs D cc dd AA) {I : sK → sM → Prop} (hAG : ag_recover I) {g : sK} {o : Nat → Int64} {t : sM} (hI : I g t) {H : Heap} {locs : List Loc} (hP : va_P D vwC (wL A cc B dd g o t) H) (hD : va_D AA (wL A cc B dd g o t)) (hS : va_S AA s.heap H locs) {ls : Array Slot} {j : Nat} (hj : j + 7 ≤ L)
    (hl : lv_has ls 8 [(0, .ref b), (1, .ref (A 0)), (2, .ref (B 0)), (3, .ref (A 10)), (4, .int (nI j))]) {n0 k0 : Nat} (hn : n0 + 1 ≤ 1052) (hk : k0 + 6 ≤ 8410)
    (kont : ∀ (g : sK) (o : Nat → Int64) (t : sM) (H : Heap) (locs : List Loc) (ls : Array Slot), I g t → va_P D vwC (wL A cc B dd g o t) H → va_D AA (wL A cc B dd g o t) → va_S AA s.heap H locs → lv_has ls 8 [(0, .ref b), (1, .ref (A 0)), (2, .ref (B 0)), (3, .ref (A 10)), (4, .int (nI j))] → W p l e room_1 s m #[Value.ref b] below meth c H locs (n0 + 1) (k0 + 6) Q (F0 m 1665 ls [])) :
    W p l e room_1 s m #[Value.ref b] below meth c H locs n0 k0 Q (F0 m 856 ls []) := by
  obtain ⟨hx, hb, hml, hown, hts, hXs, hbl, hbA, hA, hN, hX, hC, hZ, hK, hlocks, hl0, hL⟩ := C0
  have hw : ∀ w ∈ wa, w.before _ s = true := fun w h => hts w (List.mem_cons_of_mem _ h)
  have hn0 : n0 + 0 ≤ 1052 := by omega
  have hk0 : k0 + 0 ≤ 8410 := by omega
  refine lv_aload_n hx hb d_L_law_856 rfl (lv_at hl 1 rfl) ?_
  refine lv_aload_n hx hb d_L_law_857 rfl (lv_at hl 0 rfl) ?_
  refine lv_iload hx hb d_L_law_858 (lv_at hl 4 rfl) ?_
  refine lv_iconst (v := 1) hx hb d_L_law_860 (by decide) ?_
  refine lv_iadd hx hb d_L_law_861 ?_
  refine va_sld hx hb hXs hbl hbA hS (li_1 hj hL) d_L_law_862 ?_
  refine lv_aload_n hx hb d_L_law_863 rfl (lv_at hl 0 rfl) ?_
  refine lv_iload hx hb d_L_law_864 (lv_at hl 4 rfl) ?_
  refine lv_iconst (v := 2) hx hb d_L_law_866 (by decide) ?_
  refine lv_iadd hx hb d_L_law_867 ?_
  refine va_sld hx hb hXs hbl hbA hS (li_2 hj hL) d_L_law_868 ?_
  refine lv_i2l (v := Int32.toInt64 (xs (Int32.toNatClampNeg (nI j + 2)))) hx hb d_L_law_869 rfl ?_
  refine lv_bipush (v := 32) hx hb d_L_law_870 (by decide) ?_
  refine lv_lshl (v := (Int32.toInt64 (xs (Int32.toNatClampNeg (nI j + 2)))) <<< ((Int32.toInt64 32) &&& 63)) hx hb d_L_law_872 rfl ?_
  refine lv_aload_n hx hb d_L_law_873 rfl (lv_at hl 0 rfl) ?_
  refine lv_iload hx hb d_L_law_874 (lv_at hl 4 rfl) ?_
  refine lv_iconst (v := 3) hx hb d_L_law_876 (by decide) ?_
  refine lv_iadd hx hb d_L_law_877 ?_
  refine va_sld hx hb hXs hbl hbA hS (li_3 hj hL) d_L_law_878 ?_
  refine lv_i2l (v := Int32.toInt64 (xs (Int32.toNatClampNeg (nI j + 3)))) hx hb d_L_law_879 rfl ?_
  refine lv_ldc2 (v := 4294967295) hx hb hown (hw _ ww_767) d_L_law_880 ?_
  refine lv_land hx hb d_L_law_883 ?_
  refine lv_lor hx hb d_L_law_884 ?_
  refine lv_aload_n hx hb d_L_law_885 rfl (lv_at hl 0 rfl) ?_
  refine lv_iload hx hb d_L_law_886 (lv_at hl 4 rfl) ?_
  refine lv_iconst (v := 4) hx hb d_L_law_888 (by decide) ?_
  refine lv_iadd hx hb d_L_law_889 ?_
  refine va_sld hx hb hXs hbl hbA hS (li_4 hj hL) d_L_law_890 ?_
  refine lv_aload_n hx hb d_L_law_891 rfl (lv_at hl 0 rfl) ?_
  refine lv_iload hx hb d_L_law_892 (lv_at hl 4 rfl) ?_
  refine lv_iconst (v := 5) hx hb d_L_law_894 (by decide) ?_
  refine lv_iadd hx hb d_L_law_895 ?_
  refine va_sld hx hb hXs hbl hbA hS (li_5 hj hL) d_L_law_896 ?_
  refine lv_aload_n hx hb d_L_law_897 rfl (lv_at hl 0 rfl) ?_
  refine lv_iload hx hb d_L_law_898 (lv_at hl 4 rfl) ?_
  refine lv_bipush (v := 6) hx hb d_L_law_900 (by decide) ?_
  refine lv_iadd hx hb d_L_law_902 ?_
  refine va_sld hx hb hXs hbl hbA hS (li_6 hj hL) d_L_law_903 ?_
  refine lv_aload_n hx hb d_L_law_904 rfl (lv_at hl 3 rfl) ?_
  obtain ⟨k1, r1, g1, o1, t1, hf1, hf2, hth, hou, hI⟩ := hAG g o t (xs (Int32.toNatClampNeg (nI j + 1))) (((Int32.toInt64 (xs (Int32.toNatClampNeg (nI j + 2)))) <<< ((Int32.toInt64 32) &&& 63)) ||| ((Int32.toInt64 (xs (Int32.toNatClampNeg (nI j + 3)))) &&& 4294967295)) (xs (Int32.toNatClampNeg (nI j + 4))) (xs (Int32.toNatClampNeg (nI j + 5))) (xs (Int32.toNatClampNeg (nI j + 6))) hI
  have hPc := hP.sub (ws' := wX A cc (g, o)) [0, 1, 2, 3, 4, 5, 6, 7, 8, 9, 10] rfl
  have hDc := hD.sub (ws' := wX A cc (g, o)) [0, 1, 2, 3, 4, 5, 6, 7, 8, 9, 10] (by decide) rfl
  have hKc := hK.sub (tys' := kX cc) [0, 1, 2, 3, 4, 5, 6, 7] rfl
  have hFc := va_free (wc := wX A cc (g, o)) hD hS hA [0, 1, 2, 3, 4, 5, 6, 7, 8, 9, 10] rfl
  refine va_calli (vx_runSW (As := [.ref (A 0), .int (xs (Int32.toNatClampNeg (nI j + 1))), .long (((Int32.toInt64 (xs (Int32.toNatClampNeg (nI j + 2)))) <<< ((Int32.toInt64 32) &&& 63)) ||| ((Int32.toInt64 (xs (Int32.toNatClampNeg (nI j + 3)))) &&& 4294967295)), .int (xs (Int32.toNatClampNeg (nI j + 4))), .int (xs (Int32.toNatClampNeg (nI j + 5))), .int (xs (Int32.toNatClampNeg (nI j + 6))), .ref (A 10)]) (rest := []) ⟨hx, hb, hml, hown, hts⟩ (k_L_recover l hl0 D A cc (g, o) (xs (Int32.toNatClampNeg (nI j + 1))) (((Int32.toInt64 (xs (Int32.toNatClampNeg (nI j + 2)))) <<< ((Int32.toInt64 32) &&& 63)) ||| ((Int32.toInt64 (xs (Int32.toNatClampNeg (nI j + 3)))) &&& 4294967295)) (xs (Int32.toNatClampNeg (nI j + 4))) (xs (Int32.toNatClampNeg (nI j + 5))) (xs (Int32.toNatClampNeg (nI j + 6))) _ (k1, (g1, o1)) hf1) (vx_cwSW 7 hts (ga_S ww_449 ww_450 ww_0 ww_451) rfl rfl rfl (by decide +kernel) ⟨by decide, by decide⟩) (pwl_pre hPc hKc hDc hN hX hZ hC hS hFc) rfl rfl hl.1 rfl (lv_room (Nat.le_of_ble_eq_true rfl)) d_L_law_905 ⟨hn, hk⟩) hS (fun q _ h => hFc q h) hFc (fun r9 u9 t9 H locs ht hvm hp hB hz1 hk1 hS => ?_)
  obtain ⟨hp1, hp2⟩ := Prod.mk.inj hp.symm
  subst hp1
  subst hp2
  obtain ⟨hP1, hK1, hD1⟩ := hB
  rw [ht] at hP1
  obtain ⟨hP, hD⟩ := va_join (wr := wM B dd t) (w1 := wX A cc (g1, o1)) hP hD [0, 1, 2, 3, 4, 5, 6, 7, 8, 9, 10] [11, 12, 13, 14, 15, 16, 17, 18, 19] rfl rfl (by decide) (by decide) hk1 hFc hP1 hD1
  have hP := hP.sub (ws' := wL A cc B dd g1 o1 t) [9, 10, 11, 12, 13, 14, 15, 16, 17, 18, 19, 0, 1, 2, 3, 4, 5, 6, 7, 8] rfl
  have hD := hD.sub (ws' := wL A cc B dd g1 o1 t) [9, 10, 11, 12, 13, 14, 15, 16, 17, 18, 19, 0, 1, 2, 3, 4, 5, 6, 7, 8] (by decide) rfl
  refine lv_istore hx hb d_L_law_908 hl (by decide) (lv' := [(5, .int k1), (0, .ref b), (1, .ref (A 0)), (2, .ref (B 0)), (3, .ref (A 10)), (4, .int (nI j))]) rfl (fun ls hl => ?_)
  refine lv_aload_n hx hb d_L_law_910 rfl (lv_at hl 3 rfl) ?_
  refine lv_aload_n hx hb d_L_law_911 rfl (lv_at hl 1 rfl) ?_
  refine lv_iload hx hb d_L_law_912 (lv_at hl 5 rfl) ?_
  refine lv_iconst (v := 1) hx hb d_L_law_914 (by decide) ?_
  refine lv_iadd hx hb d_L_law_915 ?_
  refine va_sld hx hb hXs hbl hbA hS (li_1 hj hL) d_L_law_916 ?_
  refine lv_aload_n hx hb d_L_law_917 rfl (lv_at hl 1 rfl) ?_
  refine lv_iload hx hb d_L_law_918 (lv_at hl 5 rfl) ?_
  refine lv_iconst (v := 2) hx hb d_L_law_920 (by decide) ?_
  refine lv_iadd hx hb d_L_law_921 ?_
  refine va_sld hx hb hXs hbl hbA hS (li_2 hj hL) d_L_law_922 ?_
  refine lv_i2l (v := Int32.toInt64 (xs (Int32.toNatClampNeg (nI j + 2)))) hx hb d_L_law_923 rfl ?_
  refine lv_bipush (v := 32) hx hb d_L_law_924 (by decide) ?_
  refine lv_lshl (v := (Int32.toInt64 (xs (Int32.toNatClampNeg (nI j + 2)))) <<< ((Int32.toInt64 32) &&& 63)) hx hb d_L_law_926 rfl ?_
  refine lv_aload_n hx hb d_L_law_927 rfl (lv_at hl 1 rfl) ?_
  refine lv_iload hx hb d_L_law_928 (lv_at hl 5 rfl) ?_
  refine lv_iconst (v := 3) hx hb d_L_law_930 (by decide) ?_
  refine lv_iadd hx hb d_L_law_931 ?_
  refine va_sld hx hb hXs hbl hbA hS (li_3 hj hL) d_L_law_932 ?_
  refine lv_i2l (v := Int32.toInt64 (xs (Int32.toNatClampNeg (nI j + 3)))) hx hb d_L_law_933 rfl ?_
  refine lv_ldc2 (v := 4294967295) hx hb hown (hw _ ww_767) d_L_law_934 ?_
  refine lv_land hx hb d_L_law_937 ?_
  refine lv_lor hx hb d_L_law_938 ?_
  refine lv_aload_n hx hb d_L_law_939 rfl (lv_at hl 1 rfl) ?_
  refine lv_iload hx hb d_L_law_940 (lv_at hl 5 rfl) ?_
  refine lv_iconst (v := 4) hx hb d_L_law_942 (by decide) ?_
  refine lv_iadd hx hb d_L_law_943 ?_
  refine va_sld hx hb hXs hbl hbA hS (li_4 hj hL) d_L_law_944 ?_
  refine lv_aload_n hx hb d_L_law_945 rfl (lv_at hl 1 rfl) ?_
  refine lv_iload hx hb d_L_law_946 (lv_at hl 5 rfl) ?_
  refine lv_iconst (v := 5) hx hb d_L_law_948 (by decide) ?_
  refine lv_iadd hx hb d_L_law_949 ?_
  refine va_sld hx hb hXs hbl hbA hS (li_5 hj hL) d_L_law_950 ?_
  refine lv_aload_n hx hb d_L_law_951 rfl (lv_at hl 1 rfl) ?_
  refine lv_iload hx hb d_L_law_952 (lv_at hl 5 rfl) ?_
  refine lv_bipush (v := 6) hx hb d_L_law_954 (by decide) ?_
  refine lv_iadd hx hb d_L_law_956 ?_
  refine va_sld hx hb hXs hbl hbA hS (li_6 hj hL) d_L_law_957 ?_
  have hPc := hP.sub (ws' := wM B dd t) [11, 12, 13, 14, 15, 16, 17, 18, 19] rfl
  have hDc := hD.sub (ws' := wM B dd t) [11, 12, 13, 14, 15, 16, 17, 18, 19] (by decide) rfl
  have hKc := hK.sub (tys' := kM dd) [8, 9, 10, 11, 12, 13, 14, 15] rfl
  have hFc := va_free (wc := wM B dd t) hD hS hA [11, 12, 13, 14, 15, 16, 17, 18, 19] rfl
  refine va_calll (va_runV (As := [.int (xs (Int32.toNatClampNeg (nI j + 1))), .long (((Int32.toInt64 (xs (Int32.toNatClampNeg (nI j + 2)))) <<< ((Int32.toInt64 32) &&& 63)) ||| ((Int32.toInt64 (xs (Int32.toNatClampNeg (nI j + 3)))) &&& 4294967295)), .int (xs (Int32.toNatClampNeg (nI j + 4))), .int (xs (Int32.toNatClampNeg (nI j + 5))), .int (xs (Int32.toNatClampNeg (nI j + 6)))]) (rest := []) ⟨hx, hb, hml, hown, hts⟩ (k_M_recover l D B dd t (xs (Int32.toNatClampNeg (nI j + 1))) (((Int32.toInt64 (xs (Int32.toNatClampNeg (nI j + 2)))) <<< ((Int32.toInt64 32) &&& 63)) ||| ((Int32.toInt64 (xs (Int32.toNatClampNeg (nI j + 3)))) &&& 4294967295)) (xs (Int32.toNatClampNeg (nI j + 4))) (xs (Int32.toNatClampNeg (nI j + 5))) (xs (Int32.toNatClampNeg (nI j + 6))) _ (r1, t1) hf2) (cwV 5 hts (ga_V ww_696 ww_697 ww_698 ww_4 ww_699) rfl rfl rfl (by decide +kernel) ⟨by decide, by decide⟩) (pw_pre (q0 := 0) (ci := 3) hPc hKc hDc hN rfl rfl) rfl rfl hl.1 rfl (lv_room (Nat.le_of_ble_eq_true rfl)) d_L_law_958 ⟨hn, hk⟩) hS (fun q _ h => hFc q h) hFc (fun r9 u9 t9 H locs ht hvm hp hB hz1 hk1 hS => ?_)
  obtain ⟨hp1, hp2⟩ := Prod.mk.inj hp.symm
  subst hp1
  subst hp2
  obtain ⟨hP1, hK1, hD1⟩ := hB
  rw [ht] at hP1
  obtain ⟨hP, hD⟩ := va_join (wr := wX A cc (g1, o1)) (w1 := wM B dd t1) hP hD [11, 12, 13, 14, 15, 16, 17, 18, 19] [0, 1, 2, 3, 4, 5, 6, 7, 8, 9, 10] rfl rfl (by decide) (by decide) hk1 hFc hP1 hD1
  have hP : va_P D vwC (wL A cc B dd g1 o1 t1) H := hP
  have hD : va_D AA (wL A cc B dd g1 o1 t1) := hD
  refine lv_lstore hx hb d_L_law_961 hl (by decide) (lv' := [(6, .long r1), (5, .int k1), (0, .ref b), (1, .ref (A 0)), (2, .ref (B 0)), (3, .ref (A 10)), (4, .int (nI j))]) rfl (fun ls hl => ?_)
  refine lv_aload_n hx hb d_L_law_963 rfl (lv_at hl 4 rfl) ?_
  have hPc := hP.sub (ws' := wM B dd t1) [11, 12, 13, 14, 15, 16, 17, 18, 19] rfl
  have hDc := hD.sub (ws' := wM B dd t1) [11, 12, 13, 14, 15, 16, 17, 18, 19] (by decide) rfl
  have hKc := hK.sub (tys' := kM dd) [8, 9, 10, 11, 12, 13, 14, 15] rfl
  have hFc := va_free (wc := wM B dd t1) hD hS hA [11, 12, 13, 14, 15, 16, 17, 18, 19] rfl
  refine va_calli (va_runV (As := []) (rest := []) ⟨hx, hb, hml, hown, hts⟩ (k_M_thrown l D B dd t1 _ (t1.1, t1) rfl) (cwV 0 hts (ga_V ww_574 ww_575 ww_576 ww_4 ww_577) rfl rfl rfl (by decide +kernel) ⟨by decide, by decide⟩) (pw_pre (q0 := 0) (ci := 3) hPc hKc hDc hN rfl rfl) rfl rfl hl.1 rfl (lv_room (Nat.le_of_ble_eq_true rfl)) d_L_law_964 ⟨hn, hk⟩) hS (fun q _ h => hFc q h) hFc (fun r9 u9 t9 H locs ht hvm hp hB hz1 hk1 hS => ?_)
  obtain ⟨hp1, hp2⟩ := Prod.mk.inj hp.symm
  subst hp1
  subst hp2
  obtain ⟨hP1, hK1, hD1⟩ := hB
  rw [ht] at hP1
  obtain ⟨hP, hD⟩ := va_join (wr := wX A cc (g1, o1)) (w1 := wM B dd t1) hP hD [11, 12, 13, 14, 15, 16, 17, 18, 19] [0, 1, 2, 3, 4, 5, 6, 7, 8, 9, 10] rfl rfl (by decide) (by decide) hk1 hFc hP1 hD1
  have hP : va_P D vwC (wL A cc B dd g1 o1 t1) H := hP
  have hD : va_D AA (wL A cc B dd g1 o1 t1) := hD
  refine lv_iload hx hb d_L_law_967 (lv_at hl 1 rfl) ?_
  refine lv_icmp_eq hx hb d_L_law_969 (tgt := 974) (by decide) (fun h9 => ?_) (fun h9 => absurd hth h9)
  refine lv_iload hx hb d_L_law_974 (lv_at hl 1 rfl) ?_
  have w1 : W p l e room_1 s m #[Value.ref b] below meth c H locs (n0 + 1) (k0 + 6) Q (F0 m 990 ls []) := by
    refine lv_goto hx hb d_L_law_990 (tgt := 1665) (by decide) ?_
    exact kont g1 o1 t1 _ _ ls hI hP hD hS (lv_sub hl [2, 3, 4, 5, 6] rfl)
  refine lv_if_ne hx hb d_L_law_976 (tgt := 990) (by decide) (fun h9 => w1) (fun h9 => ?_)
  refine lv_aload_n hx hb d_L_law_979 rfl (lv_at hl 5 rfl) ?_
  refine lv_iconst (v := 0) hx hb d_L_law_980 (by decide) ?_
  refine va_lald hx hb hK hP 10 7 rfl rfl (show vp_in 0 1 by unfold vp_in; decide) d_L_law_981 ?_
  refine lv_lload hx hb d_L_law_982 (lv_at hl 0 rfl) ?_
  refine W.lcmp hx hb d_L_law_984 ?_
  exact lv_if_eq hx hb d_L_law_985 (tgt := 990) (by decide) (fun _ => w1) (fun h8 => absurd ((lg_cmp_eq _ _).mpr (hou h9)) h8)
set_option maxHeartbeats 4000000 in
set_option maxRecDepth 100000 in
theorem lw_prove {p : Program} {l : Launch} {e : Env} {s : State} {m : MethodId} {below : List Frame} {meth : Method} {c : Code} {b L : Nat} {xs : Nat → Int32} {D : va_G} {A : Nat → Nat} {cc : Nat → ClassId} {B : Nat → Nat} {dd : Nat → ClassId} {AA : Nat → Prop} {Q : State → Prop} (C0 : lc p l s m meth c b L xs D cc dd AA) {I : sK → sM → Prop} (hAG : ag_prove I) {g : sK} {o : Nat → Int64} {t : sM} (hI : I g t) {H : Heap} {locs : List Loc} (hP : va_P D vwC (wL A cc B dd g o t) H) (hD : va_D AA (wL A cc B dd g o t)) (hS : va_S AA s.heap H locs) {ls : Array Slot} {j : Nat} (hj : j + 7 ≤ L)
    (hl : lv_has ls 8 [(0, .ref b), (1, .ref (A 0)), (2, .ref (B 0)), (3, .ref (A 10)), (4, .int (nI j))]) {n0 k0 : Nat} (hn : n0 + 1 ≤ 1052) (hk : k0 + 6 ≤ 8410)
    (kont : ∀ (g : sK) (o : Nat → Int64) (t : sM) (H : Heap) (locs : List Loc) (ls : Array Slot), I g t → va_P D vwC (wL A cc B dd g o t) H → va_D AA (wL A cc B dd g o t) → va_S AA s.heap H locs → lv_has ls 8 [(0, .ref b), (1, .ref (A 0)), (2, .ref (B 0)), (3, .ref (A 10)), (4, .int (nI j))] → W p l e room_1 s m #[Value.ref b] below meth c H locs (n0 + 1) (k0 + 6) Q (F0 m 1665 ls [])) :
    W p l e room_1 s m #[Value.ref b] below meth c H locs n0 k0 Q (F0 m 993 ls []) := by
  obtain ⟨hx, hb, hml, hown, hts, hXs, hbl, hbA, hA, hN, hX, hC, hZ, hK, hlocks, hl0, hL⟩ := C0
  have hw : ∀ w ∈ wa, w.before _ s = true := fun w h => hts w (List.mem_cons_of_mem _ h)
  have hn0 : n0 + 0 ≤ 1052 := by omega
  have hk0 : k0 + 0 ≤ 8410 := by omega
  refine lv_aload_n hx hb d_L_law_993 rfl (lv_at hl 1 rfl) ?_
  refine lv_aload_n hx hb d_L_law_994 rfl (lv_at hl 0 rfl) ?_
  refine lv_iload hx hb d_L_law_995 (lv_at hl 4 rfl) ?_
  refine lv_iconst (v := 1) hx hb d_L_law_997 (by decide) ?_
  refine lv_iadd hx hb d_L_law_998 ?_
  refine va_sld hx hb hXs hbl hbA hS (li_1 hj hL) d_L_law_999 ?_
  refine lv_aload_n hx hb d_L_law_1000 rfl (lv_at hl 0 rfl) ?_
  refine lv_iload hx hb d_L_law_1001 (lv_at hl 4 rfl) ?_
  refine lv_iconst (v := 2) hx hb d_L_law_1003 (by decide) ?_
  refine lv_iadd hx hb d_L_law_1004 ?_
  refine va_sld hx hb hXs hbl hbA hS (li_2 hj hL) d_L_law_1005 ?_
  refine lv_i2l (v := Int32.toInt64 (xs (Int32.toNatClampNeg (nI j + 2)))) hx hb d_L_law_1006 rfl ?_
  refine lv_bipush (v := 32) hx hb d_L_law_1007 (by decide) ?_
  refine lv_lshl (v := (Int32.toInt64 (xs (Int32.toNatClampNeg (nI j + 2)))) <<< ((Int32.toInt64 32) &&& 63)) hx hb d_L_law_1009 rfl ?_
  refine lv_aload_n hx hb d_L_law_1010 rfl (lv_at hl 0 rfl) ?_
  refine lv_iload hx hb d_L_law_1011 (lv_at hl 4 rfl) ?_
  refine lv_iconst (v := 3) hx hb d_L_law_1013 (by decide) ?_
  refine lv_iadd hx hb d_L_law_1014 ?_
  refine va_sld hx hb hXs hbl hbA hS (li_3 hj hL) d_L_law_1015 ?_
  refine lv_i2l (v := Int32.toInt64 (xs (Int32.toNatClampNeg (nI j + 3)))) hx hb d_L_law_1016 rfl ?_
  refine lv_ldc2 (v := 4294967295) hx hb hown (hw _ ww_767) d_L_law_1017 ?_
  refine lv_land hx hb d_L_law_1020 ?_
  refine lv_lor hx hb d_L_law_1021 ?_
  refine lv_aload_n hx hb d_L_law_1022 rfl (lv_at hl 0 rfl) ?_
  refine lv_iload hx hb d_L_law_1023 (lv_at hl 4 rfl) ?_
  refine lv_iconst (v := 4) hx hb d_L_law_1025 (by decide) ?_
  refine lv_iadd hx hb d_L_law_1026 ?_
  refine va_sld hx hb hXs hbl hbA hS (li_4 hj hL) d_L_law_1027 ?_
  refine lv_i2l (v := Int32.toInt64 (xs (Int32.toNatClampNeg (nI j + 4)))) hx hb d_L_law_1028 rfl ?_
  refine lv_bipush (v := 32) hx hb d_L_law_1029 (by decide) ?_
  refine lv_lshl (v := (Int32.toInt64 (xs (Int32.toNatClampNeg (nI j + 4)))) <<< ((Int32.toInt64 32) &&& 63)) hx hb d_L_law_1031 rfl ?_
  refine lv_aload_n hx hb d_L_law_1032 rfl (lv_at hl 0 rfl) ?_
  refine lv_iload hx hb d_L_law_1033 (lv_at hl 4 rfl) ?_
  refine lv_iconst (v := 5) hx hb d_L_law_1035 (by decide) ?_
  refine lv_iadd hx hb d_L_law_1036 ?_
  refine va_sld hx hb hXs hbl hbA hS (li_5 hj hL) d_L_law_1037 ?_
  refine lv_i2l (v := Int32.toInt64 (xs (Int32.toNatClampNeg (nI j + 5)))) hx hb d_L_law_1038 rfl ?_
  refine lv_ldc2 (v := 4294967295) hx hb hown (hw _ ww_767) d_L_law_1039 ?_
  refine lv_land hx hb d_L_law_1042 ?_
  refine lv_lor hx hb d_L_law_1043 ?_
  refine lv_aload_n hx hb d_L_law_1044 rfl (lv_at hl 3 rfl) ?_
  obtain ⟨k1, r1, g1, o1, t1, hf1, hf2, hth, hou, hI⟩ := hAG g o t (xs (Int32.toNatClampNeg (nI j + 1))) (((Int32.toInt64 (xs (Int32.toNatClampNeg (nI j + 2)))) <<< ((Int32.toInt64 32) &&& 63)) ||| ((Int32.toInt64 (xs (Int32.toNatClampNeg (nI j + 3)))) &&& 4294967295)) (((Int32.toInt64 (xs (Int32.toNatClampNeg (nI j + 4)))) <<< ((Int32.toInt64 32) &&& 63)) ||| ((Int32.toInt64 (xs (Int32.toNatClampNeg (nI j + 5)))) &&& 4294967295)) hI
  have hPc := hP.sub (ws' := wX A cc (g, o)) [0, 1, 2, 3, 4, 5, 6, 7, 8, 9, 10] rfl
  have hDc := hD.sub (ws' := wX A cc (g, o)) [0, 1, 2, 3, 4, 5, 6, 7, 8, 9, 10] (by decide) rfl
  have hKc := hK.sub (tys' := kX cc) [0, 1, 2, 3, 4, 5, 6, 7] rfl
  have hFc := va_free (wc := wX A cc (g, o)) hD hS hA [0, 1, 2, 3, 4, 5, 6, 7, 8, 9, 10] rfl
  refine va_calli (vx_runSW (As := [.ref (A 0), .int (xs (Int32.toNatClampNeg (nI j + 1))), .long (((Int32.toInt64 (xs (Int32.toNatClampNeg (nI j + 2)))) <<< ((Int32.toInt64 32) &&& 63)) ||| ((Int32.toInt64 (xs (Int32.toNatClampNeg (nI j + 3)))) &&& 4294967295)), .long (((Int32.toInt64 (xs (Int32.toNatClampNeg (nI j + 4)))) <<< ((Int32.toInt64 32) &&& 63)) ||| ((Int32.toInt64 (xs (Int32.toNatClampNeg (nI j + 5)))) &&& 4294967295)), .ref (A 10)]) (rest := []) ⟨hx, hb, hml, hown, hts⟩ (k_L_prove l hl0 D A cc (g, o) (xs (Int32.toNatClampNeg (nI j + 1))) (((Int32.toInt64 (xs (Int32.toNatClampNeg (nI j + 2)))) <<< ((Int32.toInt64 32) &&& 63)) ||| ((Int32.toInt64 (xs (Int32.toNatClampNeg (nI j + 3)))) &&& 4294967295)) (((Int32.toInt64 (xs (Int32.toNatClampNeg (nI j + 4)))) <<< ((Int32.toInt64 32) &&& 63)) ||| ((Int32.toInt64 (xs (Int32.toNatClampNeg (nI j + 5)))) &&& 4294967295)) _ (k1, (g1, o1)) hf1) (vx_cwSW 5 hts (ga_S ww_456 ww_457 ww_0 ww_458) rfl rfl rfl (by decide +kernel) ⟨by decide, by decide⟩) (pwl_pre hPc hKc hDc hN hX hZ hC hS hFc) rfl rfl hl.1 rfl (lv_room (Nat.le_of_ble_eq_true rfl)) d_L_law_1045 ⟨hn, hk⟩) hS (fun q _ h => hFc q h) hFc (fun r9 u9 t9 H locs ht hvm hp hB hz1 hk1 hS => ?_)
  obtain ⟨hp1, hp2⟩ := Prod.mk.inj hp.symm
  subst hp1
  subst hp2
  obtain ⟨hP1, hK1, hD1⟩ := hB
  rw [ht] at hP1
  obtain ⟨hP, hD⟩ := va_join (wr := wM B dd t) (w1 := wX A cc (g1, o1)) hP hD [0, 1, 2, 3, 4, 5, 6, 7, 8, 9, 10] [11, 12, 13, 14, 15, 16, 17, 18, 19] rfl rfl (by decide) (by decide) hk1 hFc hP1 hD1
  have hP := hP.sub (ws' := wL A cc B dd g1 o1 t) [9, 10, 11, 12, 13, 14, 15, 16, 17, 18, 19, 0, 1, 2, 3, 4, 5, 6, 7, 8] rfl
  have hD := hD.sub (ws' := wL A cc B dd g1 o1 t) [9, 10, 11, 12, 13, 14, 15, 16, 17, 18, 19, 0, 1, 2, 3, 4, 5, 6, 7, 8] (by decide) rfl
  refine lv_istore hx hb d_L_law_1048 hl (by decide) (lv' := [(5, .int k1), (0, .ref b), (1, .ref (A 0)), (2, .ref (B 0)), (3, .ref (A 10)), (4, .int (nI j))]) rfl (fun ls hl => ?_)
  refine lv_aload_n hx hb d_L_law_1050 rfl (lv_at hl 3 rfl) ?_
  refine lv_aload_n hx hb d_L_law_1051 rfl (lv_at hl 1 rfl) ?_
  refine lv_iload hx hb d_L_law_1052 (lv_at hl 5 rfl) ?_
  refine lv_iconst (v := 1) hx hb d_L_law_1054 (by decide) ?_
  refine lv_iadd hx hb d_L_law_1055 ?_
  refine va_sld hx hb hXs hbl hbA hS (li_1 hj hL) d_L_law_1056 ?_
  refine lv_aload_n hx hb d_L_law_1057 rfl (lv_at hl 1 rfl) ?_
  refine lv_iload hx hb d_L_law_1058 (lv_at hl 5 rfl) ?_
  refine lv_iconst (v := 2) hx hb d_L_law_1060 (by decide) ?_
  refine lv_iadd hx hb d_L_law_1061 ?_
  refine va_sld hx hb hXs hbl hbA hS (li_2 hj hL) d_L_law_1062 ?_
  refine lv_i2l (v := Int32.toInt64 (xs (Int32.toNatClampNeg (nI j + 2)))) hx hb d_L_law_1063 rfl ?_
  refine lv_bipush (v := 32) hx hb d_L_law_1064 (by decide) ?_
  refine lv_lshl (v := (Int32.toInt64 (xs (Int32.toNatClampNeg (nI j + 2)))) <<< ((Int32.toInt64 32) &&& 63)) hx hb d_L_law_1066 rfl ?_
  refine lv_aload_n hx hb d_L_law_1067 rfl (lv_at hl 1 rfl) ?_
  refine lv_iload hx hb d_L_law_1068 (lv_at hl 5 rfl) ?_
  refine lv_iconst (v := 3) hx hb d_L_law_1070 (by decide) ?_
  refine lv_iadd hx hb d_L_law_1071 ?_
  refine va_sld hx hb hXs hbl hbA hS (li_3 hj hL) d_L_law_1072 ?_
  refine lv_i2l (v := Int32.toInt64 (xs (Int32.toNatClampNeg (nI j + 3)))) hx hb d_L_law_1073 rfl ?_
  refine lv_ldc2 (v := 4294967295) hx hb hown (hw _ ww_767) d_L_law_1074 ?_
  refine lv_land hx hb d_L_law_1077 ?_
  refine lv_lor hx hb d_L_law_1078 ?_
  refine lv_aload_n hx hb d_L_law_1079 rfl (lv_at hl 1 rfl) ?_
  refine lv_iload hx hb d_L_law_1080 (lv_at hl 5 rfl) ?_
  refine lv_iconst (v := 4) hx hb d_L_law_1082 (by decide) ?_
  refine lv_iadd hx hb d_L_law_1083 ?_
  refine va_sld hx hb hXs hbl hbA hS (li_4 hj hL) d_L_law_1084 ?_
  refine lv_i2l (v := Int32.toInt64 (xs (Int32.toNatClampNeg (nI j + 4)))) hx hb d_L_law_1085 rfl ?_
  refine lv_bipush (v := 32) hx hb d_L_law_1086 (by decide) ?_
  refine lv_lshl (v := (Int32.toInt64 (xs (Int32.toNatClampNeg (nI j + 4)))) <<< ((Int32.toInt64 32) &&& 63)) hx hb d_L_law_1088 rfl ?_
  refine lv_aload_n hx hb d_L_law_1089 rfl (lv_at hl 1 rfl) ?_
  refine lv_iload hx hb d_L_law_1090 (lv_at hl 5 rfl) ?_
  refine lv_iconst (v := 5) hx hb d_L_law_1092 (by decide) ?_
  refine lv_iadd hx hb d_L_law_1093 ?_
  refine va_sld hx hb hXs hbl hbA hS (li_5 hj hL) d_L_law_1094 ?_
  refine lv_i2l (v := Int32.toInt64 (xs (Int32.toNatClampNeg (nI j + 5)))) hx hb d_L_law_1095 rfl ?_
  refine lv_ldc2 (v := 4294967295) hx hb hown (hw _ ww_767) d_L_law_1096 ?_
  refine lv_land hx hb d_L_law_1099 ?_
  refine lv_lor hx hb d_L_law_1100 ?_
  have hPc := hP.sub (ws' := wM B dd t) [11, 12, 13, 14, 15, 16, 17, 18, 19] rfl
  have hDc := hD.sub (ws' := wM B dd t) [11, 12, 13, 14, 15, 16, 17, 18, 19] (by decide) rfl
  have hKc := hK.sub (tys' := kM dd) [8, 9, 10, 11, 12, 13, 14, 15] rfl
  have hFc := va_free (wc := wM B dd t) hD hS hA [11, 12, 13, 14, 15, 16, 17, 18, 19] rfl
  refine va_calll (va_runV (As := [.int (xs (Int32.toNatClampNeg (nI j + 1))), .long (((Int32.toInt64 (xs (Int32.toNatClampNeg (nI j + 2)))) <<< ((Int32.toInt64 32) &&& 63)) ||| ((Int32.toInt64 (xs (Int32.toNatClampNeg (nI j + 3)))) &&& 4294967295)), .long (((Int32.toInt64 (xs (Int32.toNatClampNeg (nI j + 4)))) <<< ((Int32.toInt64 32) &&& 63)) ||| ((Int32.toInt64 (xs (Int32.toNatClampNeg (nI j + 5)))) &&& 4294967295))]) (rest := []) ⟨hx, hb, hml, hown, hts⟩ (k_M_prove l D B dd t (xs (Int32.toNatClampNeg (nI j + 1))) (((Int32.toInt64 (xs (Int32.toNatClampNeg (nI j + 2)))) <<< ((Int32.toInt64 32) &&& 63)) ||| ((Int32.toInt64 (xs (Int32.toNatClampNeg (nI j + 3)))) &&& 4294967295)) (((Int32.toInt64 (xs (Int32.toNatClampNeg (nI j + 4)))) <<< ((Int32.toInt64 32) &&& 63)) ||| ((Int32.toInt64 (xs (Int32.toNatClampNeg (nI j + 5)))) &&& 4294967295)) _ (r1, t1) hf2) (cwV 3 hts (ga_V ww_700 ww_701 ww_702 ww_4 ww_703) rfl rfl rfl (by decide +kernel) ⟨by decide, by decide⟩) (pw_pre (q0 := 0) (ci := 3) hPc hKc hDc hN rfl rfl) rfl rfl hl.1 rfl (lv_room (Nat.le_of_ble_eq_true rfl)) d_L_law_1101 ⟨hn, hk⟩) hS (fun q _ h => hFc q h) hFc (fun r9 u9 t9 H locs ht hvm hp hB hz1 hk1 hS => ?_)
  obtain ⟨hp1, hp2⟩ := Prod.mk.inj hp.symm
  subst hp1
  subst hp2
  obtain ⟨hP1, hK1, hD1⟩ := hB
  rw [ht] at hP1
  obtain ⟨hP, hD⟩ := va_join (wr := wX A cc (g1, o1)) (w1 := wM B dd t1) hP hD [11, 12, 13, 14, 15, 16, 17, 18, 19] [0, 1, 2, 3, 4, 5, 6, 7, 8, 9, 10] rfl rfl (by decide) (by decide) hk1 hFc hP1 hD1
  have hP : va_P D vwC (wL A cc B dd g1 o1 t1) H := hP
  have hD : va_D AA (wL A cc B dd g1 o1 t1) := hD
  refine lv_lstore hx hb d_L_law_1104 hl (by decide) (lv' := [(6, .long r1), (5, .int k1), (0, .ref b), (1, .ref (A 0)), (2, .ref (B 0)), (3, .ref (A 10)), (4, .int (nI j))]) rfl (fun ls hl => ?_)
  refine lv_aload_n hx hb d_L_law_1106 rfl (lv_at hl 4 rfl) ?_
  have hPc := hP.sub (ws' := wM B dd t1) [11, 12, 13, 14, 15, 16, 17, 18, 19] rfl
  have hDc := hD.sub (ws' := wM B dd t1) [11, 12, 13, 14, 15, 16, 17, 18, 19] (by decide) rfl
  have hKc := hK.sub (tys' := kM dd) [8, 9, 10, 11, 12, 13, 14, 15] rfl
  have hFc := va_free (wc := wM B dd t1) hD hS hA [11, 12, 13, 14, 15, 16, 17, 18, 19] rfl
  refine va_calli (va_runV (As := []) (rest := []) ⟨hx, hb, hml, hown, hts⟩ (k_M_thrown l D B dd t1 _ (t1.1, t1) rfl) (cwV 0 hts (ga_V ww_574 ww_575 ww_576 ww_4 ww_577) rfl rfl rfl (by decide +kernel) ⟨by decide, by decide⟩) (pw_pre (q0 := 0) (ci := 3) hPc hKc hDc hN rfl rfl) rfl rfl hl.1 rfl (lv_room (Nat.le_of_ble_eq_true rfl)) d_L_law_1107 ⟨hn, hk⟩) hS (fun q _ h => hFc q h) hFc (fun r9 u9 t9 H locs ht hvm hp hB hz1 hk1 hS => ?_)
  obtain ⟨hp1, hp2⟩ := Prod.mk.inj hp.symm
  subst hp1
  subst hp2
  obtain ⟨hP1, hK1, hD1⟩ := hB
  rw [ht] at hP1
  obtain ⟨hP, hD⟩ := va_join (wr := wX A cc (g1, o1)) (w1 := wM B dd t1) hP hD [11, 12, 13, 14, 15, 16, 17, 18, 19] [0, 1, 2, 3, 4, 5, 6, 7, 8, 9, 10] rfl rfl (by decide) (by decide) hk1 hFc hP1 hD1
  have hP : va_P D vwC (wL A cc B dd g1 o1 t1) H := hP
  have hD : va_D AA (wL A cc B dd g1 o1 t1) := hD
  refine lv_iload hx hb d_L_law_1110 (lv_at hl 1 rfl) ?_
  refine lv_icmp_eq hx hb d_L_law_1112 (tgt := 1117) (by decide) (fun h9 => ?_) (fun h9 => absurd hth h9)
  refine lv_iload hx hb d_L_law_1117 (lv_at hl 1 rfl) ?_
  have w1 : W p l e room_1 s m #[Value.ref b] below meth c H locs (n0 + 1) (k0 + 6) Q (F0 m 1133 ls []) := by
    refine lv_goto hx hb d_L_law_1133 (tgt := 1665) (by decide) ?_
    exact kont g1 o1 t1 _ _ ls hI hP hD hS (lv_sub hl [2, 3, 4, 5, 6] rfl)
  refine lv_if_ne hx hb d_L_law_1119 (tgt := 1133) (by decide) (fun h9 => w1) (fun h9 => ?_)
  refine lv_aload_n hx hb d_L_law_1122 rfl (lv_at hl 5 rfl) ?_
  refine lv_iconst (v := 0) hx hb d_L_law_1123 (by decide) ?_
  refine va_lald hx hb hK hP 10 7 rfl rfl (show vp_in 0 1 by unfold vp_in; decide) d_L_law_1124 ?_
  refine lv_lload hx hb d_L_law_1125 (lv_at hl 0 rfl) ?_
  refine W.lcmp hx hb d_L_law_1127 ?_
  exact lv_if_eq hx hb d_L_law_1128 (tgt := 1133) (by decide) (fun _ => w1) (fun h8 => absurd ((lg_cmp_eq _ _).mpr (hou h9)) h8)
set_option maxHeartbeats 4000000 in
set_option maxRecDepth 100000 in
theorem lw_holds {p : Program} {l : Launch} {e : Env} {s : State} {m : MethodId} {below : List Frame} {meth : Method} {c : Code} {b L : Nat} {xs : Nat → Int32} {D : va_G} {A : Nat → Nat} {cc : Nat → ClassId} {B : Nat → Nat} {dd : Nat → ClassId} {AA : Nat → Prop} {Q : State → Prop} (C0 : lc p l s m meth c b L xs D cc dd AA) {I : sK → sM → Prop} (hAG : ag_holds I) {g : sK} {o : Nat → Int64} {t : sM} (hI : I g t) {H : Heap} {locs : List Loc} (hP : va_P D vwC (wL A cc B dd g o t) H) (hD : va_D AA (wL A cc B dd g o t)) (hS : va_S AA s.heap H locs) {ls : Array Slot} {j : Nat} (hj : j + 7 ≤ L)
    (hl : lv_has ls 8 [(0, .ref b), (1, .ref (A 0)), (2, .ref (B 0)), (3, .ref (A 10)), (4, .int (nI j))]) {n0 k0 : Nat} (hn : n0 + 1 ≤ 1052) (hk : k0 + 6 ≤ 8410)
    (kont : ∀ (g : sK) (o : Nat → Int64) (t : sM) (H : Heap) (locs : List Loc) (ls : Array Slot), I g t → va_P D vwC (wL A cc B dd g o t) H → va_D AA (wL A cc B dd g o t) → va_S AA s.heap H locs → lv_has ls 8 [(0, .ref b), (1, .ref (A 0)), (2, .ref (B 0)), (3, .ref (A 10)), (4, .int (nI j))] → W p l e room_1 s m #[Value.ref b] below meth c H locs (n0 + 1) (k0 + 6) Q (F0 m 1665 ls [])) :
    W p l e room_1 s m #[Value.ref b] below meth c H locs n0 k0 Q (F0 m 1136 ls []) := by
  obtain ⟨hx, hb, hml, hown, hts, hXs, hbl, hbA, hA, hN, hX, hC, hZ, hK, hlocks, hl0, hL⟩ := C0
  have hw : ∀ w ∈ wa, w.before _ s = true := fun w h => hts w (List.mem_cons_of_mem _ h)
  have hn0 : n0 + 0 ≤ 1052 := by omega
  have hk0 : k0 + 0 ≤ 8410 := by omega
  refine lv_aload_n hx hb d_L_law_1136 rfl (lv_at hl 1 rfl) ?_
  refine lv_aload_n hx hb d_L_law_1137 rfl (lv_at hl 0 rfl) ?_
  refine lv_iload hx hb d_L_law_1138 (lv_at hl 4 rfl) ?_
  refine lv_iconst (v := 1) hx hb d_L_law_1140 (by decide) ?_
  refine lv_iadd hx hb d_L_law_1141 ?_
  refine va_sld hx hb hXs hbl hbA hS (li_1 hj hL) d_L_law_1142 ?_
  refine lv_aload_n hx hb d_L_law_1143 rfl (lv_at hl 0 rfl) ?_
  refine lv_iload hx hb d_L_law_1144 (lv_at hl 4 rfl) ?_
  refine lv_iconst (v := 2) hx hb d_L_law_1146 (by decide) ?_
  refine lv_iadd hx hb d_L_law_1147 ?_
  refine va_sld hx hb hXs hbl hbA hS (li_2 hj hL) d_L_law_1148 ?_
  refine lv_i2l (v := Int32.toInt64 (xs (Int32.toNatClampNeg (nI j + 2)))) hx hb d_L_law_1149 rfl ?_
  refine lv_bipush (v := 32) hx hb d_L_law_1150 (by decide) ?_
  refine lv_lshl (v := (Int32.toInt64 (xs (Int32.toNatClampNeg (nI j + 2)))) <<< ((Int32.toInt64 32) &&& 63)) hx hb d_L_law_1152 rfl ?_
  refine lv_aload_n hx hb d_L_law_1153 rfl (lv_at hl 0 rfl) ?_
  refine lv_iload hx hb d_L_law_1154 (lv_at hl 4 rfl) ?_
  refine lv_iconst (v := 3) hx hb d_L_law_1156 (by decide) ?_
  refine lv_iadd hx hb d_L_law_1157 ?_
  refine va_sld hx hb hXs hbl hbA hS (li_3 hj hL) d_L_law_1158 ?_
  refine lv_i2l (v := Int32.toInt64 (xs (Int32.toNatClampNeg (nI j + 3)))) hx hb d_L_law_1159 rfl ?_
  refine lv_ldc2 (v := 4294967295) hx hb hown (hw _ ww_767) d_L_law_1160 ?_
  refine lv_land hx hb d_L_law_1163 ?_
  refine lv_lor hx hb d_L_law_1164 ?_
  refine lv_aload_n hx hb d_L_law_1165 rfl (lv_at hl 0 rfl) ?_
  refine lv_iload hx hb d_L_law_1166 (lv_at hl 4 rfl) ?_
  refine lv_iconst (v := 4) hx hb d_L_law_1168 (by decide) ?_
  refine lv_iadd hx hb d_L_law_1169 ?_
  refine va_sld hx hb hXs hbl hbA hS (li_4 hj hL) d_L_law_1170 ?_
  refine lv_aload_n hx hb d_L_law_1171 rfl (lv_at hl 0 rfl) ?_
  refine lv_iload hx hb d_L_law_1172 (lv_at hl 4 rfl) ?_
  refine lv_iconst (v := 5) hx hb d_L_law_1174 (by decide) ?_
  refine lv_iadd hx hb d_L_law_1175 ?_
  refine va_sld hx hb hXs hbl hbA hS (li_5 hj hL) d_L_law_1176 ?_
  refine lv_aload_n hx hb d_L_law_1177 rfl (lv_at hl 3 rfl) ?_
  obtain ⟨k1, r1, g1, o1, t1, hf1, hf2, hth, hou, hI⟩ := hAG g o t (xs (Int32.toNatClampNeg (nI j + 1))) (((Int32.toInt64 (xs (Int32.toNatClampNeg (nI j + 2)))) <<< ((Int32.toInt64 32) &&& 63)) ||| ((Int32.toInt64 (xs (Int32.toNatClampNeg (nI j + 3)))) &&& 4294967295)) (xs (Int32.toNatClampNeg (nI j + 4))) (xs (Int32.toNatClampNeg (nI j + 5))) hI
  have hPc := hP.sub (ws' := wX A cc (g, o)) [0, 1, 2, 3, 4, 5, 6, 7, 8, 9, 10] rfl
  have hDc := hD.sub (ws' := wX A cc (g, o)) [0, 1, 2, 3, 4, 5, 6, 7, 8, 9, 10] (by decide) rfl
  have hKc := hK.sub (tys' := kX cc) [0, 1, 2, 3, 4, 5, 6, 7] rfl
  have hFc := va_free (wc := wX A cc (g, o)) hD hS hA [0, 1, 2, 3, 4, 5, 6, 7, 8, 9, 10] rfl
  refine va_calli (vx_runSW (As := [.ref (A 0), .int (xs (Int32.toNatClampNeg (nI j + 1))), .long (((Int32.toInt64 (xs (Int32.toNatClampNeg (nI j + 2)))) <<< ((Int32.toInt64 32) &&& 63)) ||| ((Int32.toInt64 (xs (Int32.toNatClampNeg (nI j + 3)))) &&& 4294967295)), .int (xs (Int32.toNatClampNeg (nI j + 4))), .int (xs (Int32.toNatClampNeg (nI j + 5))), .ref (A 10)]) (rest := []) ⟨hx, hb, hml, hown, hts⟩ (k_L_holds l hl0 D A cc (g, o) (xs (Int32.toNatClampNeg (nI j + 1))) (((Int32.toInt64 (xs (Int32.toNatClampNeg (nI j + 2)))) <<< ((Int32.toInt64 32) &&& 63)) ||| ((Int32.toInt64 (xs (Int32.toNatClampNeg (nI j + 3)))) &&& 4294967295)) (xs (Int32.toNatClampNeg (nI j + 4))) (xs (Int32.toNatClampNeg (nI j + 5))) _ (k1, (g1, o1)) hf1) (vx_cwSW 6 hts (ga_S ww_468 ww_469 ww_0 ww_470) rfl rfl rfl (by decide +kernel) ⟨by decide, by decide⟩) (pwl_pre hPc hKc hDc hN hX hZ hC hS hFc) rfl rfl hl.1 rfl (lv_room (Nat.le_of_ble_eq_true rfl)) d_L_law_1178 ⟨hn, hk⟩) hS (fun q _ h => hFc q h) hFc (fun r9 u9 t9 H locs ht hvm hp hB hz1 hk1 hS => ?_)
  obtain ⟨hp1, hp2⟩ := Prod.mk.inj hp.symm
  subst hp1
  subst hp2
  obtain ⟨hP1, hK1, hD1⟩ := hB
  rw [ht] at hP1
  obtain ⟨hP, hD⟩ := va_join (wr := wM B dd t) (w1 := wX A cc (g1, o1)) hP hD [0, 1, 2, 3, 4, 5, 6, 7, 8, 9, 10] [11, 12, 13, 14, 15, 16, 17, 18, 19] rfl rfl (by decide) (by decide) hk1 hFc hP1 hD1
  have hP := hP.sub (ws' := wL A cc B dd g1 o1 t) [9, 10, 11, 12, 13, 14, 15, 16, 17, 18, 19, 0, 1, 2, 3, 4, 5, 6, 7, 8] rfl
  have hD := hD.sub (ws' := wL A cc B dd g1 o1 t) [9, 10, 11, 12, 13, 14, 15, 16, 17, 18, 19, 0, 1, 2, 3, 4, 5, 6, 7, 8] (by decide) rfl
  refine lv_istore hx hb d_L_law_1181 hl (by decide) (lv' := [(5, .int k1), (0, .ref b), (1, .ref (A 0)), (2, .ref (B 0)), (3, .ref (A 10)), (4, .int (nI j))]) rfl (fun ls hl => ?_)
  refine lv_aload_n hx hb d_L_law_1183 rfl (lv_at hl 3 rfl) ?_
  refine lv_aload_n hx hb d_L_law_1184 rfl (lv_at hl 1 rfl) ?_
  refine lv_iload hx hb d_L_law_1185 (lv_at hl 5 rfl) ?_
  refine lv_iconst (v := 1) hx hb d_L_law_1187 (by decide) ?_
  refine lv_iadd hx hb d_L_law_1188 ?_
  refine va_sld hx hb hXs hbl hbA hS (li_1 hj hL) d_L_law_1189 ?_
  refine lv_aload_n hx hb d_L_law_1190 rfl (lv_at hl 1 rfl) ?_
  refine lv_iload hx hb d_L_law_1191 (lv_at hl 5 rfl) ?_
  refine lv_iconst (v := 2) hx hb d_L_law_1193 (by decide) ?_
  refine lv_iadd hx hb d_L_law_1194 ?_
  refine va_sld hx hb hXs hbl hbA hS (li_2 hj hL) d_L_law_1195 ?_
  refine lv_i2l (v := Int32.toInt64 (xs (Int32.toNatClampNeg (nI j + 2)))) hx hb d_L_law_1196 rfl ?_
  refine lv_bipush (v := 32) hx hb d_L_law_1197 (by decide) ?_
  refine lv_lshl (v := (Int32.toInt64 (xs (Int32.toNatClampNeg (nI j + 2)))) <<< ((Int32.toInt64 32) &&& 63)) hx hb d_L_law_1199 rfl ?_
  refine lv_aload_n hx hb d_L_law_1200 rfl (lv_at hl 1 rfl) ?_
  refine lv_iload hx hb d_L_law_1201 (lv_at hl 5 rfl) ?_
  refine lv_iconst (v := 3) hx hb d_L_law_1203 (by decide) ?_
  refine lv_iadd hx hb d_L_law_1204 ?_
  refine va_sld hx hb hXs hbl hbA hS (li_3 hj hL) d_L_law_1205 ?_
  refine lv_i2l (v := Int32.toInt64 (xs (Int32.toNatClampNeg (nI j + 3)))) hx hb d_L_law_1206 rfl ?_
  refine lv_ldc2 (v := 4294967295) hx hb hown (hw _ ww_767) d_L_law_1207 ?_
  refine lv_land hx hb d_L_law_1210 ?_
  refine lv_lor hx hb d_L_law_1211 ?_
  refine lv_aload_n hx hb d_L_law_1212 rfl (lv_at hl 1 rfl) ?_
  refine lv_iload hx hb d_L_law_1213 (lv_at hl 5 rfl) ?_
  refine lv_iconst (v := 4) hx hb d_L_law_1215 (by decide) ?_
  refine lv_iadd hx hb d_L_law_1216 ?_
  refine va_sld hx hb hXs hbl hbA hS (li_4 hj hL) d_L_law_1217 ?_
  refine lv_aload_n hx hb d_L_law_1218 rfl (lv_at hl 1 rfl) ?_
  refine lv_iload hx hb d_L_law_1219 (lv_at hl 5 rfl) ?_
  refine lv_iconst (v := 5) hx hb d_L_law_1221 (by decide) ?_
  refine lv_iadd hx hb d_L_law_1222 ?_
  refine va_sld hx hb hXs hbl hbA hS (li_5 hj hL) d_L_law_1223 ?_
  have hPc := hP.sub (ws' := wM B dd t) [11, 12, 13, 14, 15, 16, 17, 18, 19] rfl
  have hDc := hD.sub (ws' := wM B dd t) [11, 12, 13, 14, 15, 16, 17, 18, 19] (by decide) rfl
  have hKc := hK.sub (tys' := kM dd) [8, 9, 10, 11, 12, 13, 14, 15] rfl
  have hFc := va_free (wc := wM B dd t) hD hS hA [11, 12, 13, 14, 15, 16, 17, 18, 19] rfl
  refine va_calli (va_runV (As := [.int (xs (Int32.toNatClampNeg (nI j + 1))), .long (((Int32.toInt64 (xs (Int32.toNatClampNeg (nI j + 2)))) <<< ((Int32.toInt64 32) &&& 63)) ||| ((Int32.toInt64 (xs (Int32.toNatClampNeg (nI j + 3)))) &&& 4294967295)), .int (xs (Int32.toNatClampNeg (nI j + 4))), .int (xs (Int32.toNatClampNeg (nI j + 5)))]) (rest := []) ⟨hx, hb, hml, hown, hts⟩ (k_M_holds l D B dd t (xs (Int32.toNatClampNeg (nI j + 1))) (((Int32.toInt64 (xs (Int32.toNatClampNeg (nI j + 2)))) <<< ((Int32.toInt64 32) &&& 63)) ||| ((Int32.toInt64 (xs (Int32.toNatClampNeg (nI j + 3)))) &&& 4294967295)) (xs (Int32.toNatClampNeg (nI j + 4))) (xs (Int32.toNatClampNeg (nI j + 5))) _ (r1, t1) hf2) (cwV 4 hts (ga_V ww_709 ww_710 ww_711 ww_4 ww_712) rfl rfl rfl (by decide +kernel) ⟨by decide, by decide⟩) (pw_pre (q0 := 0) (ci := 3) hPc hKc hDc hN rfl rfl) rfl rfl hl.1 rfl (lv_room (Nat.le_of_ble_eq_true rfl)) d_L_law_1224 ⟨hn, hk⟩) hS (fun q _ h => hFc q h) hFc (fun r9 u9 t9 H locs ht hvm hp hB hz1 hk1 hS => ?_)
  obtain ⟨hp1, hp2⟩ := Prod.mk.inj hp.symm
  subst hp1
  subst hp2
  obtain ⟨hP1, hK1, hD1⟩ := hB
  rw [ht] at hP1
  obtain ⟨hP, hD⟩ := va_join (wr := wX A cc (g1, o1)) (w1 := wM B dd t1) hP hD [11, 12, 13, 14, 15, 16, 17, 18, 19] [0, 1, 2, 3, 4, 5, 6, 7, 8, 9, 10] rfl rfl (by decide) (by decide) hk1 hFc hP1 hD1
  have hP : va_P D vwC (wL A cc B dd g1 o1 t1) H := hP
  have hD : va_D AA (wL A cc B dd g1 o1 t1) := hD
  refine lv_istore hx hb d_L_law_1227 hl (by decide) (lv' := [(6, .int r1), (5, .int k1), (0, .ref b), (1, .ref (A 0)), (2, .ref (B 0)), (3, .ref (A 10)), (4, .int (nI j))]) rfl (fun ls hl => ?_)
  refine lv_aload_n hx hb d_L_law_1229 rfl (lv_at hl 4 rfl) ?_
  have hPc := hP.sub (ws' := wM B dd t1) [11, 12, 13, 14, 15, 16, 17, 18, 19] rfl
  have hDc := hD.sub (ws' := wM B dd t1) [11, 12, 13, 14, 15, 16, 17, 18, 19] (by decide) rfl
  have hKc := hK.sub (tys' := kM dd) [8, 9, 10, 11, 12, 13, 14, 15] rfl
  have hFc := va_free (wc := wM B dd t1) hD hS hA [11, 12, 13, 14, 15, 16, 17, 18, 19] rfl
  refine va_calli (va_runV (As := []) (rest := []) ⟨hx, hb, hml, hown, hts⟩ (k_M_thrown l D B dd t1 _ (t1.1, t1) rfl) (cwV 0 hts (ga_V ww_574 ww_575 ww_576 ww_4 ww_577) rfl rfl rfl (by decide +kernel) ⟨by decide, by decide⟩) (pw_pre (q0 := 0) (ci := 3) hPc hKc hDc hN rfl rfl) rfl rfl hl.1 rfl (lv_room (Nat.le_of_ble_eq_true rfl)) d_L_law_1230 ⟨hn, hk⟩) hS (fun q _ h => hFc q h) hFc (fun r9 u9 t9 H locs ht hvm hp hB hz1 hk1 hS => ?_)
  obtain ⟨hp1, hp2⟩ := Prod.mk.inj hp.symm
  subst hp1
  subst hp2
  obtain ⟨hP1, hK1, hD1⟩ := hB
  rw [ht] at hP1
  obtain ⟨hP, hD⟩ := va_join (wr := wX A cc (g1, o1)) (w1 := wM B dd t1) hP hD [11, 12, 13, 14, 15, 16, 17, 18, 19] [0, 1, 2, 3, 4, 5, 6, 7, 8, 9, 10] rfl rfl (by decide) (by decide) hk1 hFc hP1 hD1
  have hP : va_P D vwC (wL A cc B dd g1 o1 t1) H := hP
  have hD : va_D AA (wL A cc B dd g1 o1 t1) := hD
  refine lv_iload hx hb d_L_law_1233 (lv_at hl 1 rfl) ?_
  refine lv_icmp_eq hx hb d_L_law_1235 (tgt := 1240) (by decide) (fun h9 => ?_) (fun h9 => absurd hth h9)
  refine lv_iload hx hb d_L_law_1240 (lv_at hl 1 rfl) ?_
  have w1 : W p l e room_1 s m #[Value.ref b] below meth c H locs (n0 + 1) (k0 + 6) Q (F0 m 1264 ls []) := by
    refine lv_goto hx hb d_L_law_1264 (tgt := 1665) (by decide) ?_
    exact kont g1 o1 t1 _ _ ls hI hP hD hS (lv_sub hl [2, 3, 4, 5, 6] rfl)
  refine lv_if_ne hx hb d_L_law_1242 (tgt := 1264) (by decide) (fun h9 => w1) (fun h9 => ?_)
  refine lv_aload_n hx hb d_L_law_1245 rfl (lv_at hl 5 rfl) ?_
  refine lv_iconst (v := 0) hx hb d_L_law_1246 (by decide) ?_
  refine va_lald hx hb hK hP 10 7 rfl rfl (show vp_in 0 1 by unfold vp_in; decide) d_L_law_1247 ?_
  refine lv_iload hx hb d_L_law_1248 (lv_at hl 0 rfl) ?_
  refine lv_if_eq hx hb d_L_law_1250 (tgt := 1257) (by decide) (fun h7 => ?_) (fun h7 => ?_)
  · skip
    refine lv_lconst (v := 0) hx hb d_L_law_1257 (by decide) ?_
    refine W.lcmp hx hb d_L_law_1258 ?_
    exact lv_if_eq hx hb d_L_law_1259 (tgt := 1264) (by decide) (fun _ => w1) (fun h8 => absurd ((lg_cmp_eq _ _).mpr ((hou h9).trans (if_pos h7))) h8)
  · skip
    refine lv_lconst (v := 1) hx hb d_L_law_1253 (by decide) ?_
    refine lv_goto hx hb d_L_law_1254 (tgt := 1258) (by decide) ?_
    refine W.lcmp hx hb d_L_law_1258 ?_
    exact lv_if_eq hx hb d_L_law_1259 (tgt := 1264) (by decide) (fun _ => w1) (fun h8 => absurd ((lg_cmp_eq _ _).mpr ((hou h9).trans (if_neg h7))) h8)
set_option maxHeartbeats 4000000 in
set_option maxRecDepth 100000 in
theorem lw_bundle {p : Program} {l : Launch} {e : Env} {s : State} {m : MethodId} {below : List Frame} {meth : Method} {c : Code} {b L : Nat} {xs : Nat → Int32} {D : va_G} {A : Nat → Nat} {cc : Nat → ClassId} {B : Nat → Nat} {dd : Nat → ClassId} {AA : Nat → Prop} {Q : State → Prop} (C0 : lc p l s m meth c b L xs D cc dd AA) {I : sK → sM → Prop} (hAG : ag_bundle I) {g : sK} {o : Nat → Int64} {t : sM} (hI : I g t) {H : Heap} {locs : List Loc} (hP : va_P D vwC (wL A cc B dd g o t) H) (hD : va_D AA (wL A cc B dd g o t)) (hS : va_S AA s.heap H locs) {ls : Array Slot} {j : Nat} (hj : j + 7 ≤ L)
    (hl : lv_has ls 8 [(0, .ref b), (1, .ref (A 0)), (2, .ref (B 0)), (3, .ref (A 10)), (4, .int (nI j))]) {n0 k0 : Nat} (hn : n0 + 1 ≤ 1052) (hk : k0 + 6 ≤ 8410)
    (kont : ∀ (g : sK) (o : Nat → Int64) (t : sM) (H : Heap) (locs : List Loc) (ls : Array Slot), I g t → va_P D vwC (wL A cc B dd g o t) H → va_D AA (wL A cc B dd g o t) → va_S AA s.heap H locs → lv_has ls 8 [(0, .ref b), (1, .ref (A 0)), (2, .ref (B 0)), (3, .ref (A 10)), (4, .int (nI j))] → W p l e room_1 s m #[Value.ref b] below meth c H locs (n0 + 1) (k0 + 6) Q (F0 m 1665 ls [])) :
    W p l e room_1 s m #[Value.ref b] below meth c H locs n0 k0 Q (F0 m 1267 ls []) := by
  obtain ⟨hx, hb, hml, hown, hts, hXs, hbl, hbA, hA, hN, hX, hC, hZ, hK, hlocks, hl0, hL⟩ := C0
  have hw : ∀ w ∈ wa, w.before _ s = true := fun w h => hts w (List.mem_cons_of_mem _ h)
  have hn0 : n0 + 0 ≤ 1052 := by omega
  have hk0 : k0 + 0 ≤ 8410 := by omega
  refine lv_aload_n hx hb d_L_law_1267 rfl (lv_at hl 1 rfl) ?_
  refine lv_aload_n hx hb d_L_law_1268 rfl (lv_at hl 0 rfl) ?_
  refine lv_iload hx hb d_L_law_1269 (lv_at hl 4 rfl) ?_
  refine lv_iconst (v := 1) hx hb d_L_law_1271 (by decide) ?_
  refine lv_iadd hx hb d_L_law_1272 ?_
  refine va_sld hx hb hXs hbl hbA hS (li_1 hj hL) d_L_law_1273 ?_
  refine lv_aload_n hx hb d_L_law_1274 rfl (lv_at hl 0 rfl) ?_
  refine lv_iload hx hb d_L_law_1275 (lv_at hl 4 rfl) ?_
  refine lv_iconst (v := 2) hx hb d_L_law_1277 (by decide) ?_
  refine lv_iadd hx hb d_L_law_1278 ?_
  refine va_sld hx hb hXs hbl hbA hS (li_2 hj hL) d_L_law_1279 ?_
  refine lv_i2l (v := Int32.toInt64 (xs (Int32.toNatClampNeg (nI j + 2)))) hx hb d_L_law_1280 rfl ?_
  refine lv_bipush (v := 32) hx hb d_L_law_1281 (by decide) ?_
  refine lv_lshl (v := (Int32.toInt64 (xs (Int32.toNatClampNeg (nI j + 2)))) <<< ((Int32.toInt64 32) &&& 63)) hx hb d_L_law_1283 rfl ?_
  refine lv_aload_n hx hb d_L_law_1284 rfl (lv_at hl 0 rfl) ?_
  refine lv_iload hx hb d_L_law_1285 (lv_at hl 4 rfl) ?_
  refine lv_iconst (v := 3) hx hb d_L_law_1287 (by decide) ?_
  refine lv_iadd hx hb d_L_law_1288 ?_
  refine va_sld hx hb hXs hbl hbA hS (li_3 hj hL) d_L_law_1289 ?_
  refine lv_i2l (v := Int32.toInt64 (xs (Int32.toNatClampNeg (nI j + 3)))) hx hb d_L_law_1290 rfl ?_
  refine lv_ldc2 (v := 4294967295) hx hb hown (hw _ ww_767) d_L_law_1291 ?_
  refine lv_land hx hb d_L_law_1294 ?_
  refine lv_lor hx hb d_L_law_1295 ?_
  refine lv_aload_n hx hb d_L_law_1296 rfl (lv_at hl 0 rfl) ?_
  refine lv_iload hx hb d_L_law_1297 (lv_at hl 4 rfl) ?_
  refine lv_iconst (v := 4) hx hb d_L_law_1299 (by decide) ?_
  refine lv_iadd hx hb d_L_law_1300 ?_
  refine va_sld hx hb hXs hbl hbA hS (li_4 hj hL) d_L_law_1301 ?_
  refine lv_aload_n hx hb d_L_law_1302 rfl (lv_at hl 0 rfl) ?_
  refine lv_iload hx hb d_L_law_1303 (lv_at hl 4 rfl) ?_
  refine lv_iconst (v := 5) hx hb d_L_law_1305 (by decide) ?_
  refine lv_iadd hx hb d_L_law_1306 ?_
  refine va_sld hx hb hXs hbl hbA hS (li_5 hj hL) d_L_law_1307 ?_
  refine lv_aload_n hx hb d_L_law_1308 rfl (lv_at hl 3 rfl) ?_
  obtain ⟨k1, r1, g1, o1, t1, hf1, hf2, hth, hou, hI⟩ := hAG g o t (xs (Int32.toNatClampNeg (nI j + 1))) (((Int32.toInt64 (xs (Int32.toNatClampNeg (nI j + 2)))) <<< ((Int32.toInt64 32) &&& 63)) ||| ((Int32.toInt64 (xs (Int32.toNatClampNeg (nI j + 3)))) &&& 4294967295)) (xs (Int32.toNatClampNeg (nI j + 4))) (xs (Int32.toNatClampNeg (nI j + 5))) hI
  have hPc := hP.sub (ws' := wX A cc (g, o)) [0, 1, 2, 3, 4, 5, 6, 7, 8, 9, 10] rfl
  have hDc := hD.sub (ws' := wX A cc (g, o)) [0, 1, 2, 3, 4, 5, 6, 7, 8, 9, 10] (by decide) rfl
  have hKc := hK.sub (tys' := kX cc) [0, 1, 2, 3, 4, 5, 6, 7] rfl
  have hFc := va_free (wc := wX A cc (g, o)) hD hS hA [0, 1, 2, 3, 4, 5, 6, 7, 8, 9, 10] rfl
  refine va_calli (vx_runSW (As := [.ref (A 0), .int (xs (Int32.toNatClampNeg (nI j + 1))), .long (((Int32.toInt64 (xs (Int32.toNatClampNeg (nI j + 2)))) <<< ((Int32.toInt64 32) &&& 63)) ||| ((Int32.toInt64 (xs (Int32.toNatClampNeg (nI j + 3)))) &&& 4294967295)), .int (xs (Int32.toNatClampNeg (nI j + 4))), .int (xs (Int32.toNatClampNeg (nI j + 5))), .ref (A 10)]) (rest := []) ⟨hx, hb, hml, hown, hts⟩ (k_L_bundle l hl0 D A cc (g, o) (xs (Int32.toNatClampNeg (nI j + 1))) (((Int32.toInt64 (xs (Int32.toNatClampNeg (nI j + 2)))) <<< ((Int32.toInt64 32) &&& 63)) ||| ((Int32.toInt64 (xs (Int32.toNatClampNeg (nI j + 3)))) &&& 4294967295)) (xs (Int32.toNatClampNeg (nI j + 4))) (xs (Int32.toNatClampNeg (nI j + 5))) _ (k1, (g1, o1)) hf1) (vx_cwSW 6 hts (ga_S ww_479 ww_480 ww_0 ww_481) rfl rfl rfl (by decide +kernel) ⟨by decide, by decide⟩) (pwl_pre hPc hKc hDc hN hX hZ hC hS hFc) rfl rfl hl.1 rfl (lv_room (Nat.le_of_ble_eq_true rfl)) d_L_law_1309 ⟨hn, hk⟩) hS (fun q _ h => hFc q h) hFc (fun r9 u9 t9 H locs ht hvm hp hB hz1 hk1 hS => ?_)
  obtain ⟨hp1, hp2⟩ := Prod.mk.inj hp.symm
  subst hp1
  subst hp2
  obtain ⟨hP1, hK1, hD1⟩ := hB
  rw [ht] at hP1
  obtain ⟨hP, hD⟩ := va_join (wr := wM B dd t) (w1 := wX A cc (g1, o1)) hP hD [0, 1, 2, 3, 4, 5, 6, 7, 8, 9, 10] [11, 12, 13, 14, 15, 16, 17, 18, 19] rfl rfl (by decide) (by decide) hk1 hFc hP1 hD1
  have hP := hP.sub (ws' := wL A cc B dd g1 o1 t) [9, 10, 11, 12, 13, 14, 15, 16, 17, 18, 19, 0, 1, 2, 3, 4, 5, 6, 7, 8] rfl
  have hD := hD.sub (ws' := wL A cc B dd g1 o1 t) [9, 10, 11, 12, 13, 14, 15, 16, 17, 18, 19, 0, 1, 2, 3, 4, 5, 6, 7, 8] (by decide) rfl
  refine lv_istore hx hb d_L_law_1312 hl (by decide) (lv' := [(5, .int k1), (0, .ref b), (1, .ref (A 0)), (2, .ref (B 0)), (3, .ref (A 10)), (4, .int (nI j))]) rfl (fun ls hl => ?_)
  refine lv_aload_n hx hb d_L_law_1314 rfl (lv_at hl 3 rfl) ?_
  refine lv_aload_n hx hb d_L_law_1315 rfl (lv_at hl 1 rfl) ?_
  refine lv_iload hx hb d_L_law_1316 (lv_at hl 5 rfl) ?_
  refine lv_iconst (v := 1) hx hb d_L_law_1318 (by decide) ?_
  refine lv_iadd hx hb d_L_law_1319 ?_
  refine va_sld hx hb hXs hbl hbA hS (li_1 hj hL) d_L_law_1320 ?_
  refine lv_aload_n hx hb d_L_law_1321 rfl (lv_at hl 1 rfl) ?_
  refine lv_iload hx hb d_L_law_1322 (lv_at hl 5 rfl) ?_
  refine lv_iconst (v := 2) hx hb d_L_law_1324 (by decide) ?_
  refine lv_iadd hx hb d_L_law_1325 ?_
  refine va_sld hx hb hXs hbl hbA hS (li_2 hj hL) d_L_law_1326 ?_
  refine lv_i2l (v := Int32.toInt64 (xs (Int32.toNatClampNeg (nI j + 2)))) hx hb d_L_law_1327 rfl ?_
  refine lv_bipush (v := 32) hx hb d_L_law_1328 (by decide) ?_
  refine lv_lshl (v := (Int32.toInt64 (xs (Int32.toNatClampNeg (nI j + 2)))) <<< ((Int32.toInt64 32) &&& 63)) hx hb d_L_law_1330 rfl ?_
  refine lv_aload_n hx hb d_L_law_1331 rfl (lv_at hl 1 rfl) ?_
  refine lv_iload hx hb d_L_law_1332 (lv_at hl 5 rfl) ?_
  refine lv_iconst (v := 3) hx hb d_L_law_1334 (by decide) ?_
  refine lv_iadd hx hb d_L_law_1335 ?_
  refine va_sld hx hb hXs hbl hbA hS (li_3 hj hL) d_L_law_1336 ?_
  refine lv_i2l (v := Int32.toInt64 (xs (Int32.toNatClampNeg (nI j + 3)))) hx hb d_L_law_1337 rfl ?_
  refine lv_ldc2 (v := 4294967295) hx hb hown (hw _ ww_767) d_L_law_1338 ?_
  refine lv_land hx hb d_L_law_1341 ?_
  refine lv_lor hx hb d_L_law_1342 ?_
  refine lv_aload_n hx hb d_L_law_1343 rfl (lv_at hl 1 rfl) ?_
  refine lv_iload hx hb d_L_law_1344 (lv_at hl 5 rfl) ?_
  refine lv_iconst (v := 4) hx hb d_L_law_1346 (by decide) ?_
  refine lv_iadd hx hb d_L_law_1347 ?_
  refine va_sld hx hb hXs hbl hbA hS (li_4 hj hL) d_L_law_1348 ?_
  refine lv_aload_n hx hb d_L_law_1349 rfl (lv_at hl 1 rfl) ?_
  refine lv_iload hx hb d_L_law_1350 (lv_at hl 5 rfl) ?_
  refine lv_iconst (v := 5) hx hb d_L_law_1352 (by decide) ?_
  refine lv_iadd hx hb d_L_law_1353 ?_
  refine va_sld hx hb hXs hbl hbA hS (li_5 hj hL) d_L_law_1354 ?_
  have hPc := hP.sub (ws' := wM B dd t) [11, 12, 13, 14, 15, 16, 17, 18, 19] rfl
  have hDc := hD.sub (ws' := wM B dd t) [11, 12, 13, 14, 15, 16, 17, 18, 19] (by decide) rfl
  have hKc := hK.sub (tys' := kM dd) [8, 9, 10, 11, 12, 13, 14, 15] rfl
  have hFc := va_free (wc := wM B dd t) hD hS hA [11, 12, 13, 14, 15, 16, 17, 18, 19] rfl
  refine va_calli (va_runV (As := [.int (xs (Int32.toNatClampNeg (nI j + 1))), .long (((Int32.toInt64 (xs (Int32.toNatClampNeg (nI j + 2)))) <<< ((Int32.toInt64 32) &&& 63)) ||| ((Int32.toInt64 (xs (Int32.toNatClampNeg (nI j + 3)))) &&& 4294967295)), .int (xs (Int32.toNatClampNeg (nI j + 4))), .int (xs (Int32.toNatClampNeg (nI j + 5)))]) (rest := []) ⟨hx, hb, hml, hown, hts⟩ (k_M_bundle l D B dd t (xs (Int32.toNatClampNeg (nI j + 1))) (((Int32.toInt64 (xs (Int32.toNatClampNeg (nI j + 2)))) <<< ((Int32.toInt64 32) &&& 63)) ||| ((Int32.toInt64 (xs (Int32.toNatClampNeg (nI j + 3)))) &&& 4294967295)) (xs (Int32.toNatClampNeg (nI j + 4))) (xs (Int32.toNatClampNeg (nI j + 5))) _ (r1, t1) hf2) (cwV 4 hts (ga_V ww_713 ww_714 ww_715 ww_4 ww_716) rfl rfl rfl (by decide +kernel) ⟨by decide, by decide⟩) (pw_pre (q0 := 0) (ci := 3) hPc hKc hDc hN rfl rfl) rfl rfl hl.1 rfl (lv_room (Nat.le_of_ble_eq_true rfl)) d_L_law_1355 ⟨hn, hk⟩) hS (fun q _ h => hFc q h) hFc (fun r9 u9 t9 H locs ht hvm hp hB hz1 hk1 hS => ?_)
  obtain ⟨hp1, hp2⟩ := Prod.mk.inj hp.symm
  subst hp1
  subst hp2
  obtain ⟨hP1, hK1, hD1⟩ := hB
  rw [ht] at hP1
  obtain ⟨hP, hD⟩ := va_join (wr := wX A cc (g1, o1)) (w1 := wM B dd t1) hP hD [11, 12, 13, 14, 15, 16, 17, 18, 19] [0, 1, 2, 3, 4, 5, 6, 7, 8, 9, 10] rfl rfl (by decide) (by decide) hk1 hFc hP1 hD1
  have hP : va_P D vwC (wL A cc B dd g1 o1 t1) H := hP
  have hD : va_D AA (wL A cc B dd g1 o1 t1) := hD
  refine lv_istore hx hb d_L_law_1358 hl (by decide) (lv' := [(6, .int r1), (5, .int k1), (0, .ref b), (1, .ref (A 0)), (2, .ref (B 0)), (3, .ref (A 10)), (4, .int (nI j))]) rfl (fun ls hl => ?_)
  refine lv_aload_n hx hb d_L_law_1360 rfl (lv_at hl 4 rfl) ?_
  have hPc := hP.sub (ws' := wM B dd t1) [11, 12, 13, 14, 15, 16, 17, 18, 19] rfl
  have hDc := hD.sub (ws' := wM B dd t1) [11, 12, 13, 14, 15, 16, 17, 18, 19] (by decide) rfl
  have hKc := hK.sub (tys' := kM dd) [8, 9, 10, 11, 12, 13, 14, 15] rfl
  have hFc := va_free (wc := wM B dd t1) hD hS hA [11, 12, 13, 14, 15, 16, 17, 18, 19] rfl
  refine va_calli (va_runV (As := []) (rest := []) ⟨hx, hb, hml, hown, hts⟩ (k_M_thrown l D B dd t1 _ (t1.1, t1) rfl) (cwV 0 hts (ga_V ww_574 ww_575 ww_576 ww_4 ww_577) rfl rfl rfl (by decide +kernel) ⟨by decide, by decide⟩) (pw_pre (q0 := 0) (ci := 3) hPc hKc hDc hN rfl rfl) rfl rfl hl.1 rfl (lv_room (Nat.le_of_ble_eq_true rfl)) d_L_law_1361 ⟨hn, hk⟩) hS (fun q _ h => hFc q h) hFc (fun r9 u9 t9 H locs ht hvm hp hB hz1 hk1 hS => ?_)
  obtain ⟨hp1, hp2⟩ := Prod.mk.inj hp.symm
  subst hp1
  subst hp2
  obtain ⟨hP1, hK1, hD1⟩ := hB
  rw [ht] at hP1
  obtain ⟨hP, hD⟩ := va_join (wr := wX A cc (g1, o1)) (w1 := wM B dd t1) hP hD [11, 12, 13, 14, 15, 16, 17, 18, 19] [0, 1, 2, 3, 4, 5, 6, 7, 8, 9, 10] rfl rfl (by decide) (by decide) hk1 hFc hP1 hD1
  have hP : va_P D vwC (wL A cc B dd g1 o1 t1) H := hP
  have hD : va_D AA (wL A cc B dd g1 o1 t1) := hD
  refine lv_iload hx hb d_L_law_1364 (lv_at hl 1 rfl) ?_
  refine lv_icmp_eq hx hb d_L_law_1366 (tgt := 1371) (by decide) (fun h9 => ?_) (fun h9 => absurd hth h9)
  refine lv_iload hx hb d_L_law_1371 (lv_at hl 1 rfl) ?_
  have w1 : W p l e room_1 s m #[Value.ref b] below meth c H locs (n0 + 1) (k0 + 6) Q (F0 m 1388 ls []) := by
    refine lv_goto hx hb d_L_law_1388 (tgt := 1665) (by decide) ?_
    exact kont g1 o1 t1 _ _ ls hI hP hD hS (lv_sub hl [2, 3, 4, 5, 6] rfl)
  refine lv_if_ne hx hb d_L_law_1373 (tgt := 1388) (by decide) (fun h9 => w1) (fun h9 => ?_)
  refine lv_aload_n hx hb d_L_law_1376 rfl (lv_at hl 5 rfl) ?_
  refine lv_iconst (v := 0) hx hb d_L_law_1377 (by decide) ?_
  refine va_lald hx hb hK hP 10 7 rfl rfl (show vp_in 0 1 by unfold vp_in; decide) d_L_law_1378 ?_
  refine lv_iload hx hb d_L_law_1379 (lv_at hl 0 rfl) ?_
  refine lv_i2l (v := Int32.toInt64 r1) hx hb d_L_law_1381 rfl ?_
  refine W.lcmp hx hb d_L_law_1382 ?_
  exact lv_if_eq hx hb d_L_law_1383 (tgt := 1388) (by decide) (fun _ => w1) (fun h8 => absurd ((lg_cmp_eq _ _).mpr (hou h9)) h8)
set_option maxHeartbeats 4000000 in
set_option maxRecDepth 100000 in
theorem lw_right {p : Program} {l : Launch} {e : Env} {s : State} {m : MethodId} {below : List Frame} {meth : Method} {c : Code} {b L : Nat} {xs : Nat → Int32} {D : va_G} {A : Nat → Nat} {cc : Nat → ClassId} {B : Nat → Nat} {dd : Nat → ClassId} {AA : Nat → Prop} {Q : State → Prop} (C0 : lc p l s m meth c b L xs D cc dd AA) {I : sK → sM → Prop} (hAG : ag_right I) {g : sK} {o : Nat → Int64} {t : sM} (hI : I g t) {H : Heap} {locs : List Loc} (hP : va_P D vwC (wL A cc B dd g o t) H) (hD : va_D AA (wL A cc B dd g o t)) (hS : va_S AA s.heap H locs) {ls : Array Slot} {j : Nat} (hj : j + 7 ≤ L)
    (hl : lv_has ls 8 [(0, .ref b), (1, .ref (A 0)), (2, .ref (B 0)), (3, .ref (A 10)), (4, .int (nI j))]) {n0 k0 : Nat} (hn : n0 + 1 ≤ 1052) (hk : k0 + 6 ≤ 8410)
    (kont : ∀ (g : sK) (o : Nat → Int64) (t : sM) (H : Heap) (locs : List Loc) (ls : Array Slot), I g t → va_P D vwC (wL A cc B dd g o t) H → va_D AA (wL A cc B dd g o t) → va_S AA s.heap H locs → lv_has ls 8 [(0, .ref b), (1, .ref (A 0)), (2, .ref (B 0)), (3, .ref (A 10)), (4, .int (nI j))] → W p l e room_1 s m #[Value.ref b] below meth c H locs (n0 + 1) (k0 + 6) Q (F0 m 1665 ls [])) :
    W p l e room_1 s m #[Value.ref b] below meth c H locs n0 k0 Q (F0 m 1391 ls []) := by
  obtain ⟨hx, hb, hml, hown, hts, hXs, hbl, hbA, hA, hN, hX, hC, hZ, hK, hlocks, hl0, hL⟩ := C0
  have hw : ∀ w ∈ wa, w.before _ s = true := fun w h => hts w (List.mem_cons_of_mem _ h)
  have hn0 : n0 + 0 ≤ 1052 := by omega
  have hk0 : k0 + 0 ≤ 8410 := by omega
  refine lv_aload_n hx hb d_L_law_1391 rfl (lv_at hl 1 rfl) ?_
  refine lv_aload_n hx hb d_L_law_1392 rfl (lv_at hl 0 rfl) ?_
  refine lv_iload hx hb d_L_law_1393 (lv_at hl 4 rfl) ?_
  refine lv_iconst (v := 1) hx hb d_L_law_1395 (by decide) ?_
  refine lv_iadd hx hb d_L_law_1396 ?_
  refine va_sld hx hb hXs hbl hbA hS (li_1 hj hL) d_L_law_1397 ?_
  refine lv_i2l (v := Int32.toInt64 (xs (Int32.toNatClampNeg (nI j + 1)))) hx hb d_L_law_1398 rfl ?_
  refine lv_bipush (v := 32) hx hb d_L_law_1399 (by decide) ?_
  refine lv_lshl (v := (Int32.toInt64 (xs (Int32.toNatClampNeg (nI j + 1)))) <<< ((Int32.toInt64 32) &&& 63)) hx hb d_L_law_1401 rfl ?_
  refine lv_aload_n hx hb d_L_law_1402 rfl (lv_at hl 0 rfl) ?_
  refine lv_iload hx hb d_L_law_1403 (lv_at hl 4 rfl) ?_
  refine lv_iconst (v := 2) hx hb d_L_law_1405 (by decide) ?_
  refine lv_iadd hx hb d_L_law_1406 ?_
  refine va_sld hx hb hXs hbl hbA hS (li_2 hj hL) d_L_law_1407 ?_
  refine lv_i2l (v := Int32.toInt64 (xs (Int32.toNatClampNeg (nI j + 2)))) hx hb d_L_law_1408 rfl ?_
  refine lv_ldc2 (v := 4294967295) hx hb hown (hw _ ww_767) d_L_law_1409 ?_
  refine lv_land hx hb d_L_law_1412 ?_
  refine lv_lor hx hb d_L_law_1413 ?_
  obtain ⟨r1, g1, t1, hf1, hf2, hI⟩ := hAG g t (((Int32.toInt64 (xs (Int32.toNatClampNeg (nI j + 1)))) <<< ((Int32.toInt64 32) &&& 63)) ||| ((Int32.toInt64 (xs (Int32.toNatClampNeg (nI j + 2)))) &&& 4294967295)) hI
  have hPc := hP.sub (ws' := wK A cc g) [0, 1, 2, 3, 4, 5, 6, 7, 8, 9] rfl
  have hDc := hD.sub (ws' := wK A cc g) [0, 1, 2, 3, 4, 5, 6, 7, 8, 9] (by decide) rfl
  have hKc := hK.sub (tys' := kK cc) [0, 1, 2, 3, 4, 5, 6] rfl
  have hFc := va_free (wc := wK A cc g) hD hS hA [0, 1, 2, 3, 4, 5, 6, 7, 8, 9] rfl
  refine va_calli (va_runV (As := [.long (((Int32.toInt64 (xs (Int32.toNatClampNeg (nI j + 1)))) <<< ((Int32.toInt64 32) &&& 63)) ||| ((Int32.toInt64 (xs (Int32.toNatClampNeg (nI j + 2)))) &&& 4294967295))]) (rest := []) ⟨hx, hb, hml, hown, hts⟩ (k_K_right l D A cc g (((Int32.toInt64 (xs (Int32.toNatClampNeg (nI j + 1)))) <<< ((Int32.toInt64 32) &&& 63)) ||| ((Int32.toInt64 (xs (Int32.toNatClampNeg (nI j + 2)))) &&& 4294967295)) _ (r1, g1) hf1) (cwV 1 hts (ga_V ww_116 ww_117 ww_118 ww_1 ww_119) rfl rfl rfl (by decide +kernel) ⟨by decide, by decide⟩) (pw_pre (q0 := 0) (ci := 2) hPc hKc hDc hN rfl rfl) rfl rfl hl.1 rfl (lv_room (Nat.le_of_ble_eq_true rfl)) d_L_law_1414 ⟨hn0, hk0⟩) hS (fun q _ h => hFc q h) hFc (fun r9 u9 t9 H locs ht hvm hp hB hz1 hk1 hS => ?_)
  obtain ⟨hp1, hp2⟩ := Prod.mk.inj hp.symm
  subst hp1
  subst hp2
  obtain ⟨hP1, hK1, hD1⟩ := hB
  rw [ht] at hP1
  obtain ⟨hP, hD⟩ := va_join (wr := [(A 10, .inl (cc 10, 1, .inr (.inl o))), (B 0, .inr (3, [.int t.1, .ref (B 1), .ref (B 2), .int t.2.2.2.1, .int t.2.2.2.2.1, .ref (B 3), .ref (B 4), .ref (B 5), .ref (B 6), .int t.2.2.2.2.2.2.2.2.2.1, .ref (B 7), .int t.2.2.2.2.2.2.2.2.2.2.2.1, .ref (B 8)])), (B 1, .inl (dd 1, 6, .inr (.inl t.2.1))), (B 2, .inl (dd 2, 6, .inr (.inl t.2.2.1))), (B 3, .inl (dd 3, 8, .inr (.inl t.2.2.2.2.2.1))), (B 4, .inl (dd 4, 8, .inr (.inl t.2.2.2.2.2.2.1))), (B 5, .inl (dd 5, 8, .inl t.2.2.2.2.2.2.2.1)), (B 6, .inl (dd 6, 8, .inl t.2.2.2.2.2.2.2.2.1)), (B 7, .inl (dd 7, 20, .inl t.2.2.2.2.2.2.2.2.2.2.1)), (B 8, .inl (dd 8, 16, .inl t.2.2.2.2.2.2.2.2.2.2.2.2))]) (w1 := wK A cc g1) hP hD [0, 1, 2, 3, 4, 5, 6, 7, 8, 9] [10, 11, 12, 13, 14, 15, 16, 17, 18, 19] rfl rfl (by decide) (by decide) hk1 hFc hP1 hD1
  have hP := hP.sub (ws' := wL A cc B dd g1 o t) [10, 11, 12, 13, 14, 15, 16, 17, 18, 19, 0, 1, 2, 3, 4, 5, 6, 7, 8, 9] rfl
  have hD := hD.sub (ws' := wL A cc B dd g1 o t) [10, 11, 12, 13, 14, 15, 16, 17, 18, 19, 0, 1, 2, 3, 4, 5, 6, 7, 8, 9] (by decide) rfl
  refine lv_aload_n hx hb d_L_law_1417 rfl (lv_at hl 2 rfl) ?_
  refine lv_aload_n hx hb d_L_law_1418 rfl (lv_at hl 0 rfl) ?_
  refine lv_iload hx hb d_L_law_1419 (lv_at hl 4 rfl) ?_
  refine lv_iconst (v := 1) hx hb d_L_law_1421 (by decide) ?_
  refine lv_iadd hx hb d_L_law_1422 ?_
  refine va_sld hx hb hXs hbl hbA hS (li_1 hj hL) d_L_law_1423 ?_
  refine lv_i2l (v := Int32.toInt64 (xs (Int32.toNatClampNeg (nI j + 1)))) hx hb d_L_law_1424 rfl ?_
  refine lv_bipush (v := 32) hx hb d_L_law_1425 (by decide) ?_
  refine lv_lshl (v := (Int32.toInt64 (xs (Int32.toNatClampNeg (nI j + 1)))) <<< ((Int32.toInt64 32) &&& 63)) hx hb d_L_law_1427 rfl ?_
  refine lv_aload_n hx hb d_L_law_1428 rfl (lv_at hl 0 rfl) ?_
  refine lv_iload hx hb d_L_law_1429 (lv_at hl 4 rfl) ?_
  refine lv_iconst (v := 2) hx hb d_L_law_1431 (by decide) ?_
  refine lv_iadd hx hb d_L_law_1432 ?_
  refine va_sld hx hb hXs hbl hbA hS (li_2 hj hL) d_L_law_1433 ?_
  refine lv_i2l (v := Int32.toInt64 (xs (Int32.toNatClampNeg (nI j + 2)))) hx hb d_L_law_1434 rfl ?_
  refine lv_ldc2 (v := 4294967295) hx hb hown (hw _ ww_767) d_L_law_1435 ?_
  refine lv_land hx hb d_L_law_1438 ?_
  refine lv_lor hx hb d_L_law_1439 ?_
  have hPc := hP.sub (ws' := wM B dd t) [11, 12, 13, 14, 15, 16, 17, 18, 19] rfl
  have hDc := hD.sub (ws' := wM B dd t) [11, 12, 13, 14, 15, 16, 17, 18, 19] (by decide) rfl
  have hKc := hK.sub (tys' := kM dd) [8, 9, 10, 11, 12, 13, 14, 15] rfl
  have hFc := va_free (wc := wM B dd t) hD hS hA [11, 12, 13, 14, 15, 16, 17, 18, 19] rfl
  refine va_calli (va_runV (As := [.long (((Int32.toInt64 (xs (Int32.toNatClampNeg (nI j + 1)))) <<< ((Int32.toInt64 32) &&& 63)) ||| ((Int32.toInt64 (xs (Int32.toNatClampNeg (nI j + 2)))) &&& 4294967295))]) (rest := [.int r1]) ⟨hx, hb, hml, hown, hts⟩ (k_M_right l D B dd t (((Int32.toInt64 (xs (Int32.toNatClampNeg (nI j + 1)))) <<< ((Int32.toInt64 32) &&& 63)) ||| ((Int32.toInt64 (xs (Int32.toNatClampNeg (nI j + 2)))) &&& 4294967295)) _ (r1, t1) hf2) (cwV 1 hts (ga_V ww_717 ww_718 ww_719 ww_4 ww_720) rfl rfl rfl (by decide +kernel) ⟨by decide, by decide⟩) (pw_pre (q0 := 0) (ci := 3) hPc hKc hDc hN rfl rfl) rfl rfl hl.1 rfl (lv_room (Nat.le_of_ble_eq_true rfl)) d_L_law_1440 ⟨hn0, hk0⟩) hS (fun q _ h => hFc q h) hFc (fun r9 u9 t9 H locs ht hvm hp hB hz1 hk1 hS => ?_)
  obtain ⟨hp1, hp2⟩ := Prod.mk.inj hp.symm
  subst hp1
  subst hp2
  obtain ⟨hP1, hK1, hD1⟩ := hB
  rw [ht] at hP1
  obtain ⟨hP, hD⟩ := va_join (wr := wX A cc (g1, o)) (w1 := wM B dd t1) hP hD [11, 12, 13, 14, 15, 16, 17, 18, 19] [0, 1, 2, 3, 4, 5, 6, 7, 8, 9, 10] rfl rfl (by decide) (by decide) hk1 hFc hP1 hD1
  have hP : va_P D vwC (wL A cc B dd g1 o t1) H := hP
  have hD : va_D AA (wL A cc B dd g1 o t1) := hD
  refine lv_icmp_eq hx hb d_L_law_1443 (tgt := 1665) (by decide) (fun h9 => ?_) (fun h9 => absurd rfl h9)
  refine W.widen (k := n0 + 1) (n := k0 + 6) (Nat.le_add_right _ _) (Nat.le_add_right _ _) ?_
  exact kont g1 o t1 _ _ ls hI hP hD hS (lv_sub hl [0, 1, 2, 3, 4] rfl)
set_option maxHeartbeats 4000000 in
set_option maxRecDepth 100000 in
theorem lw_agree {p : Program} {l : Launch} {e : Env} {s : State} {m : MethodId} {below : List Frame} {meth : Method} {c : Code} {b L : Nat} {xs : Nat → Int32} {D : va_G} {A : Nat → Nat} {cc : Nat → ClassId} {B : Nat → Nat} {dd : Nat → ClassId} {AA : Nat → Prop} {Q : State → Prop} (C0 : lc p l s m meth c b L xs D cc dd AA) {I : sK → sM → Prop} (hAG : ag_agree I) {g : sK} {o : Nat → Int64} {t : sM} (hI : I g t) {H : Heap} {locs : List Loc} (hP : va_P D vwC (wL A cc B dd g o t) H) (hD : va_D AA (wL A cc B dd g o t)) (hS : va_S AA s.heap H locs) {ls : Array Slot} {j : Nat} (hj : j + 7 ≤ L)
    (hl : lv_has ls 8 [(0, .ref b), (1, .ref (A 0)), (2, .ref (B 0)), (3, .ref (A 10)), (4, .int (nI j))]) {n0 k0 : Nat} (hn : n0 + 1 ≤ 1052) (hk : k0 + 6 ≤ 8410)
    (kont : ∀ (g : sK) (o : Nat → Int64) (t : sM) (H : Heap) (locs : List Loc) (ls : Array Slot), I g t → va_P D vwC (wL A cc B dd g o t) H → va_D AA (wL A cc B dd g o t) → va_S AA s.heap H locs → lv_has ls 8 [(0, .ref b), (1, .ref (A 0)), (2, .ref (B 0)), (3, .ref (A 10)), (4, .int (nI j))] → W p l e room_1 s m #[Value.ref b] below meth c H locs (n0 + 1) (k0 + 6) Q (F0 m 1665 ls [])) :
    W p l e room_1 s m #[Value.ref b] below meth c H locs n0 k0 Q (F0 m 1448 ls []) := by
  obtain ⟨hx, hb, hml, hown, hts, hXs, hbl, hbA, hA, hN, hX, hC, hZ, hK, hlocks, hl0, hL⟩ := C0
  have hw : ∀ w ∈ wa, w.before _ s = true := fun w h => hts w (List.mem_cons_of_mem _ h)
  have hn0 : n0 + 0 ≤ 1052 := by omega
  have hk0 : k0 + 0 ≤ 8410 := by omega
  refine lv_aload_n hx hb d_L_law_1448 rfl (lv_at hl 1 rfl) ?_
  refine lv_aload_n hx hb d_L_law_1449 rfl (lv_at hl 0 rfl) ?_
  refine lv_iload hx hb d_L_law_1450 (lv_at hl 4 rfl) ?_
  refine lv_iconst (v := 1) hx hb d_L_law_1452 (by decide) ?_
  refine lv_iadd hx hb d_L_law_1453 ?_
  refine va_sld hx hb hXs hbl hbA hS (li_1 hj hL) d_L_law_1454 ?_
  refine lv_aload_n hx hb d_L_law_1455 rfl (lv_at hl 0 rfl) ?_
  refine lv_iload hx hb d_L_law_1456 (lv_at hl 4 rfl) ?_
  refine lv_iconst (v := 2) hx hb d_L_law_1458 (by decide) ?_
  refine lv_iadd hx hb d_L_law_1459 ?_
  refine va_sld hx hb hXs hbl hbA hS (li_2 hj hL) d_L_law_1460 ?_
  refine lv_aload_n hx hb d_L_law_1461 rfl (lv_at hl 3 rfl) ?_
  obtain ⟨k1, r1, g1, o1, t1, hf1, hf2, hth, hou, hI⟩ := hAG g o t (xs (Int32.toNatClampNeg (nI j + 1))) (xs (Int32.toNatClampNeg (nI j + 2))) hI
  have hPc := hP.sub (ws' := wX A cc (g, o)) [0, 1, 2, 3, 4, 5, 6, 7, 8, 9, 10] rfl
  have hDc := hD.sub (ws' := wX A cc (g, o)) [0, 1, 2, 3, 4, 5, 6, 7, 8, 9, 10] (by decide) rfl
  have hKc := hK.sub (tys' := kX cc) [0, 1, 2, 3, 4, 5, 6, 7] rfl
  have hFc := va_free (wc := wX A cc (g, o)) hD hS hA [0, 1, 2, 3, 4, 5, 6, 7, 8, 9, 10] rfl
  refine va_calli (vx_runSW (As := [.ref (A 0), .int (xs (Int32.toNatClampNeg (nI j + 1))), .int (xs (Int32.toNatClampNeg (nI j + 2))), .ref (A 10)]) (rest := []) ⟨hx, hb, hml, hown, hts⟩ (k_L_agree l hl0 D A cc (g, o) (xs (Int32.toNatClampNeg (nI j + 1))) (xs (Int32.toNatClampNeg (nI j + 2))) _ (k1, (g1, o1)) hf1) (vx_cwSW 4 hts (ga_S ww_495 ww_496 ww_0 ww_497) rfl rfl rfl (by decide +kernel) ⟨by decide, by decide⟩) (pwl_pre hPc hKc hDc hN hX hZ hC hS hFc) rfl rfl hl.1 rfl (lv_room (Nat.le_of_ble_eq_true rfl)) d_L_law_1462 ⟨hn, hk⟩) hS (fun q _ h => hFc q h) hFc (fun r9 u9 t9 H locs ht hvm hp hB hz1 hk1 hS => ?_)
  obtain ⟨hp1, hp2⟩ := Prod.mk.inj hp.symm
  subst hp1
  subst hp2
  obtain ⟨hP1, hK1, hD1⟩ := hB
  rw [ht] at hP1
  obtain ⟨hP, hD⟩ := va_join (wr := wM B dd t) (w1 := wX A cc (g1, o1)) hP hD [0, 1, 2, 3, 4, 5, 6, 7, 8, 9, 10] [11, 12, 13, 14, 15, 16, 17, 18, 19] rfl rfl (by decide) (by decide) hk1 hFc hP1 hD1
  have hP := hP.sub (ws' := wL A cc B dd g1 o1 t) [9, 10, 11, 12, 13, 14, 15, 16, 17, 18, 19, 0, 1, 2, 3, 4, 5, 6, 7, 8] rfl
  have hD := hD.sub (ws' := wL A cc B dd g1 o1 t) [9, 10, 11, 12, 13, 14, 15, 16, 17, 18, 19, 0, 1, 2, 3, 4, 5, 6, 7, 8] (by decide) rfl
  refine lv_istore hx hb d_L_law_1465 hl (by decide) (lv' := [(5, .int k1), (0, .ref b), (1, .ref (A 0)), (2, .ref (B 0)), (3, .ref (A 10)), (4, .int (nI j))]) rfl (fun ls hl => ?_)
  refine lv_aload_n hx hb d_L_law_1467 rfl (lv_at hl 3 rfl) ?_
  refine lv_aload_n hx hb d_L_law_1468 rfl (lv_at hl 1 rfl) ?_
  refine lv_iload hx hb d_L_law_1469 (lv_at hl 5 rfl) ?_
  refine lv_iconst (v := 1) hx hb d_L_law_1471 (by decide) ?_
  refine lv_iadd hx hb d_L_law_1472 ?_
  refine va_sld hx hb hXs hbl hbA hS (li_1 hj hL) d_L_law_1473 ?_
  refine lv_aload_n hx hb d_L_law_1474 rfl (lv_at hl 1 rfl) ?_
  refine lv_iload hx hb d_L_law_1475 (lv_at hl 5 rfl) ?_
  refine lv_iconst (v := 2) hx hb d_L_law_1477 (by decide) ?_
  refine lv_iadd hx hb d_L_law_1478 ?_
  refine va_sld hx hb hXs hbl hbA hS (li_2 hj hL) d_L_law_1479 ?_
  have hPc := hP.sub (ws' := wM B dd t) [11, 12, 13, 14, 15, 16, 17, 18, 19] rfl
  have hDc := hD.sub (ws' := wM B dd t) [11, 12, 13, 14, 15, 16, 17, 18, 19] (by decide) rfl
  have hKc := hK.sub (tys' := kM dd) [8, 9, 10, 11, 12, 13, 14, 15] rfl
  have hFc := va_free (wc := wM B dd t) hD hS hA [11, 12, 13, 14, 15, 16, 17, 18, 19] rfl
  refine va_calll (va_runV (As := [.int (xs (Int32.toNatClampNeg (nI j + 1))), .int (xs (Int32.toNatClampNeg (nI j + 2)))]) (rest := []) ⟨hx, hb, hml, hown, hts⟩ (k_M_agree l D B dd t (xs (Int32.toNatClampNeg (nI j + 1))) (xs (Int32.toNatClampNeg (nI j + 2))) _ (r1, t1) hf2) (cwV 2 hts (ga_V ww_722 ww_723 ww_724 ww_4 ww_725) rfl rfl rfl (by decide +kernel) ⟨by decide, by decide⟩) (pw_pre (q0 := 0) (ci := 3) hPc hKc hDc hN rfl rfl) rfl rfl hl.1 rfl (lv_room (Nat.le_of_ble_eq_true rfl)) d_L_law_1480 ⟨hn, hk⟩) hS (fun q _ h => hFc q h) hFc (fun r9 u9 t9 H locs ht hvm hp hB hz1 hk1 hS => ?_)
  obtain ⟨hp1, hp2⟩ := Prod.mk.inj hp.symm
  subst hp1
  subst hp2
  obtain ⟨hP1, hK1, hD1⟩ := hB
  rw [ht] at hP1
  obtain ⟨hP, hD⟩ := va_join (wr := wX A cc (g1, o1)) (w1 := wM B dd t1) hP hD [11, 12, 13, 14, 15, 16, 17, 18, 19] [0, 1, 2, 3, 4, 5, 6, 7, 8, 9, 10] rfl rfl (by decide) (by decide) hk1 hFc hP1 hD1
  have hP : va_P D vwC (wL A cc B dd g1 o1 t1) H := hP
  have hD : va_D AA (wL A cc B dd g1 o1 t1) := hD
  refine lv_lstore hx hb d_L_law_1483 hl (by decide) (lv' := [(6, .long r1), (5, .int k1), (0, .ref b), (1, .ref (A 0)), (2, .ref (B 0)), (3, .ref (A 10)), (4, .int (nI j))]) rfl (fun ls hl => ?_)
  refine lv_aload_n hx hb d_L_law_1485 rfl (lv_at hl 4 rfl) ?_
  have hPc := hP.sub (ws' := wM B dd t1) [11, 12, 13, 14, 15, 16, 17, 18, 19] rfl
  have hDc := hD.sub (ws' := wM B dd t1) [11, 12, 13, 14, 15, 16, 17, 18, 19] (by decide) rfl
  have hKc := hK.sub (tys' := kM dd) [8, 9, 10, 11, 12, 13, 14, 15] rfl
  have hFc := va_free (wc := wM B dd t1) hD hS hA [11, 12, 13, 14, 15, 16, 17, 18, 19] rfl
  refine va_calli (va_runV (As := []) (rest := []) ⟨hx, hb, hml, hown, hts⟩ (k_M_thrown l D B dd t1 _ (t1.1, t1) rfl) (cwV 0 hts (ga_V ww_574 ww_575 ww_576 ww_4 ww_577) rfl rfl rfl (by decide +kernel) ⟨by decide, by decide⟩) (pw_pre (q0 := 0) (ci := 3) hPc hKc hDc hN rfl rfl) rfl rfl hl.1 rfl (lv_room (Nat.le_of_ble_eq_true rfl)) d_L_law_1486 ⟨hn, hk⟩) hS (fun q _ h => hFc q h) hFc (fun r9 u9 t9 H locs ht hvm hp hB hz1 hk1 hS => ?_)
  obtain ⟨hp1, hp2⟩ := Prod.mk.inj hp.symm
  subst hp1
  subst hp2
  obtain ⟨hP1, hK1, hD1⟩ := hB
  rw [ht] at hP1
  obtain ⟨hP, hD⟩ := va_join (wr := wX A cc (g1, o1)) (w1 := wM B dd t1) hP hD [11, 12, 13, 14, 15, 16, 17, 18, 19] [0, 1, 2, 3, 4, 5, 6, 7, 8, 9, 10] rfl rfl (by decide) (by decide) hk1 hFc hP1 hD1
  have hP : va_P D vwC (wL A cc B dd g1 o1 t1) H := hP
  have hD : va_D AA (wL A cc B dd g1 o1 t1) := hD
  refine lv_iload hx hb d_L_law_1489 (lv_at hl 1 rfl) ?_
  refine lv_icmp_eq hx hb d_L_law_1491 (tgt := 1496) (by decide) (fun h9 => ?_) (fun h9 => absurd hth h9)
  refine lv_iload hx hb d_L_law_1496 (lv_at hl 1 rfl) ?_
  have w1 : W p l e room_1 s m #[Value.ref b] below meth c H locs (n0 + 1) (k0 + 6) Q (F0 m 1512 ls []) := by
    refine lv_goto hx hb d_L_law_1512 (tgt := 1665) (by decide) ?_
    exact kont g1 o1 t1 _ _ ls hI hP hD hS (lv_sub hl [2, 3, 4, 5, 6] rfl)
  refine lv_if_ne hx hb d_L_law_1498 (tgt := 1512) (by decide) (fun h9 => w1) (fun h9 => ?_)
  refine lv_aload_n hx hb d_L_law_1501 rfl (lv_at hl 5 rfl) ?_
  refine lv_iconst (v := 0) hx hb d_L_law_1502 (by decide) ?_
  refine va_lald hx hb hK hP 10 7 rfl rfl (show vp_in 0 1 by unfold vp_in; decide) d_L_law_1503 ?_
  refine lv_lload hx hb d_L_law_1504 (lv_at hl 0 rfl) ?_
  refine W.lcmp hx hb d_L_law_1506 ?_
  exact lv_if_eq hx hb d_L_law_1507 (tgt := 1512) (by decide) (fun _ => w1) (fun h8 => absurd ((lg_cmp_eq _ _).mpr (hou h9)) h8)
set_option maxHeartbeats 4000000 in
set_option maxRecDepth 100000 in
theorem lw_written {p : Program} {l : Launch} {e : Env} {s : State} {m : MethodId} {below : List Frame} {meth : Method} {c : Code} {b L : Nat} {xs : Nat → Int32} {D : va_G} {A : Nat → Nat} {cc : Nat → ClassId} {B : Nat → Nat} {dd : Nat → ClassId} {AA : Nat → Prop} {Q : State → Prop} (C0 : lc p l s m meth c b L xs D cc dd AA) {I : sK → sM → Prop} (hAG : ag_written I) {g : sK} {o : Nat → Int64} {t : sM} (hI : I g t) {H : Heap} {locs : List Loc} (hP : va_P D vwC (wL A cc B dd g o t) H) (hD : va_D AA (wL A cc B dd g o t)) (hS : va_S AA s.heap H locs) {ls : Array Slot} {j : Nat} (hj : j + 7 ≤ L)
    (hl : lv_has ls 8 [(0, .ref b), (1, .ref (A 0)), (2, .ref (B 0)), (3, .ref (A 10)), (4, .int (nI j))]) {n0 k0 : Nat} (hn : n0 + 1 ≤ 1052) (hk : k0 + 6 ≤ 8410)
    (kont : ∀ (g : sK) (o : Nat → Int64) (t : sM) (H : Heap) (locs : List Loc) (ls : Array Slot), I g t → va_P D vwC (wL A cc B dd g o t) H → va_D AA (wL A cc B dd g o t) → va_S AA s.heap H locs → lv_has ls 8 [(0, .ref b), (1, .ref (A 0)), (2, .ref (B 0)), (3, .ref (A 10)), (4, .int (nI j))] → W p l e room_1 s m #[Value.ref b] below meth c H locs (n0 + 1) (k0 + 6) Q (F0 m 1665 ls [])) :
    W p l e room_1 s m #[Value.ref b] below meth c H locs n0 k0 Q (F0 m 1515 ls []) := by
  obtain ⟨hx, hb, hml, hown, hts, hXs, hbl, hbA, hA, hN, hX, hC, hZ, hK, hlocks, hl0, hL⟩ := C0
  have hw : ∀ w ∈ wa, w.before _ s = true := fun w h => hts w (List.mem_cons_of_mem _ h)
  have hn0 : n0 + 0 ≤ 1052 := by omega
  have hk0 : k0 + 0 ≤ 8410 := by omega
  refine lv_aload_n hx hb d_L_law_1515 rfl (lv_at hl 1 rfl) ?_
  refine lv_aload_n hx hb d_L_law_1516 rfl (lv_at hl 0 rfl) ?_
  refine lv_iload hx hb d_L_law_1517 (lv_at hl 4 rfl) ?_
  refine lv_iconst (v := 1) hx hb d_L_law_1519 (by decide) ?_
  refine lv_iadd hx hb d_L_law_1520 ?_
  refine va_sld hx hb hXs hbl hbA hS (li_1 hj hL) d_L_law_1521 ?_
  refine lv_aload_n hx hb d_L_law_1522 rfl (lv_at hl 0 rfl) ?_
  refine lv_iload hx hb d_L_law_1523 (lv_at hl 4 rfl) ?_
  refine lv_iconst (v := 2) hx hb d_L_law_1525 (by decide) ?_
  refine lv_iadd hx hb d_L_law_1526 ?_
  refine va_sld hx hb hXs hbl hbA hS (li_2 hj hL) d_L_law_1527 ?_
  refine lv_aload_n hx hb d_L_law_1528 rfl (lv_at hl 0 rfl) ?_
  refine lv_iload hx hb d_L_law_1529 (lv_at hl 4 rfl) ?_
  refine lv_iconst (v := 3) hx hb d_L_law_1531 (by decide) ?_
  refine lv_iadd hx hb d_L_law_1532 ?_
  refine va_sld hx hb hXs hbl hbA hS (li_3 hj hL) d_L_law_1533 ?_
  refine lv_aload_n hx hb d_L_law_1534 rfl (lv_at hl 3 rfl) ?_
  obtain ⟨k1, r1, g1, o1, t1, hf1, hf2, hth, hou, hI⟩ := hAG g o t (xs (Int32.toNatClampNeg (nI j + 1))) (xs (Int32.toNatClampNeg (nI j + 2))) (xs (Int32.toNatClampNeg (nI j + 3))) hI
  have hPc := hP.sub (ws' := wX A cc (g, o)) [0, 1, 2, 3, 4, 5, 6, 7, 8, 9, 10] rfl
  have hDc := hD.sub (ws' := wX A cc (g, o)) [0, 1, 2, 3, 4, 5, 6, 7, 8, 9, 10] (by decide) rfl
  have hKc := hK.sub (tys' := kX cc) [0, 1, 2, 3, 4, 5, 6, 7] rfl
  have hFc := va_free (wc := wX A cc (g, o)) hD hS hA [0, 1, 2, 3, 4, 5, 6, 7, 8, 9, 10] rfl
  refine va_calli (vx_runSW (As := [.ref (A 0), .int (xs (Int32.toNatClampNeg (nI j + 1))), .int (xs (Int32.toNatClampNeg (nI j + 2))), .int (xs (Int32.toNatClampNeg (nI j + 3))), .ref (A 10)]) (rest := []) ⟨hx, hb, hml, hown, hts⟩ (k_L_written l hl0 D A cc (g, o) (xs (Int32.toNatClampNeg (nI j + 1))) (xs (Int32.toNatClampNeg (nI j + 2))) (xs (Int32.toNatClampNeg (nI j + 3))) _ (k1, (g1, o1)) hf1) (vx_cwSW 5 hts (ga_S ww_503 ww_504 ww_0 ww_505) rfl rfl rfl (by decide +kernel) ⟨by decide, by decide⟩) (pwl_pre hPc hKc hDc hN hX hZ hC hS hFc) rfl rfl hl.1 rfl (lv_room (Nat.le_of_ble_eq_true rfl)) d_L_law_1535 ⟨hn, hk⟩) hS (fun q _ h => hFc q h) hFc (fun r9 u9 t9 H locs ht hvm hp hB hz1 hk1 hS => ?_)
  obtain ⟨hp1, hp2⟩ := Prod.mk.inj hp.symm
  subst hp1
  subst hp2
  obtain ⟨hP1, hK1, hD1⟩ := hB
  rw [ht] at hP1
  obtain ⟨hP, hD⟩ := va_join (wr := wM B dd t) (w1 := wX A cc (g1, o1)) hP hD [0, 1, 2, 3, 4, 5, 6, 7, 8, 9, 10] [11, 12, 13, 14, 15, 16, 17, 18, 19] rfl rfl (by decide) (by decide) hk1 hFc hP1 hD1
  have hP := hP.sub (ws' := wL A cc B dd g1 o1 t) [9, 10, 11, 12, 13, 14, 15, 16, 17, 18, 19, 0, 1, 2, 3, 4, 5, 6, 7, 8] rfl
  have hD := hD.sub (ws' := wL A cc B dd g1 o1 t) [9, 10, 11, 12, 13, 14, 15, 16, 17, 18, 19, 0, 1, 2, 3, 4, 5, 6, 7, 8] (by decide) rfl
  refine lv_istore hx hb d_L_law_1538 hl (by decide) (lv' := [(5, .int k1), (0, .ref b), (1, .ref (A 0)), (2, .ref (B 0)), (3, .ref (A 10)), (4, .int (nI j))]) rfl (fun ls hl => ?_)
  refine lv_aload_n hx hb d_L_law_1540 rfl (lv_at hl 3 rfl) ?_
  refine lv_aload_n hx hb d_L_law_1541 rfl (lv_at hl 1 rfl) ?_
  refine lv_iload hx hb d_L_law_1542 (lv_at hl 5 rfl) ?_
  refine lv_iconst (v := 1) hx hb d_L_law_1544 (by decide) ?_
  refine lv_iadd hx hb d_L_law_1545 ?_
  refine va_sld hx hb hXs hbl hbA hS (li_1 hj hL) d_L_law_1546 ?_
  refine lv_aload_n hx hb d_L_law_1547 rfl (lv_at hl 1 rfl) ?_
  refine lv_iload hx hb d_L_law_1548 (lv_at hl 5 rfl) ?_
  refine lv_iconst (v := 2) hx hb d_L_law_1550 (by decide) ?_
  refine lv_iadd hx hb d_L_law_1551 ?_
  refine va_sld hx hb hXs hbl hbA hS (li_2 hj hL) d_L_law_1552 ?_
  refine lv_aload_n hx hb d_L_law_1553 rfl (lv_at hl 1 rfl) ?_
  refine lv_iload hx hb d_L_law_1554 (lv_at hl 5 rfl) ?_
  refine lv_iconst (v := 3) hx hb d_L_law_1556 (by decide) ?_
  refine lv_iadd hx hb d_L_law_1557 ?_
  refine va_sld hx hb hXs hbl hbA hS (li_3 hj hL) d_L_law_1558 ?_
  have hPc := hP.sub (ws' := wM B dd t) [11, 12, 13, 14, 15, 16, 17, 18, 19] rfl
  have hDc := hD.sub (ws' := wM B dd t) [11, 12, 13, 14, 15, 16, 17, 18, 19] (by decide) rfl
  have hKc := hK.sub (tys' := kM dd) [8, 9, 10, 11, 12, 13, 14, 15] rfl
  have hFc := va_free (wc := wM B dd t) hD hS hA [11, 12, 13, 14, 15, 16, 17, 18, 19] rfl
  refine va_calli (va_runV (As := [.int (xs (Int32.toNatClampNeg (nI j + 1))), .int (xs (Int32.toNatClampNeg (nI j + 2))), .int (xs (Int32.toNatClampNeg (nI j + 3)))]) (rest := []) ⟨hx, hb, hml, hown, hts⟩ (k_M_written l D B dd t (xs (Int32.toNatClampNeg (nI j + 1))) (xs (Int32.toNatClampNeg (nI j + 2))) (xs (Int32.toNatClampNeg (nI j + 3))) _ (r1, t1) hf2) (cwV 3 hts (ga_V ww_726 ww_727 ww_728 ww_4 ww_729) rfl rfl rfl (by decide +kernel) ⟨by decide, by decide⟩) (pw_pre (q0 := 0) (ci := 3) hPc hKc hDc hN rfl rfl) rfl rfl hl.1 rfl (lv_room (Nat.le_of_ble_eq_true rfl)) d_L_law_1559 ⟨hn, hk⟩) hS (fun q _ h => hFc q h) hFc (fun r9 u9 t9 H locs ht hvm hp hB hz1 hk1 hS => ?_)
  obtain ⟨hp1, hp2⟩ := Prod.mk.inj hp.symm
  subst hp1
  subst hp2
  obtain ⟨hP1, hK1, hD1⟩ := hB
  rw [ht] at hP1
  obtain ⟨hP, hD⟩ := va_join (wr := wX A cc (g1, o1)) (w1 := wM B dd t1) hP hD [11, 12, 13, 14, 15, 16, 17, 18, 19] [0, 1, 2, 3, 4, 5, 6, 7, 8, 9, 10] rfl rfl (by decide) (by decide) hk1 hFc hP1 hD1
  have hP : va_P D vwC (wL A cc B dd g1 o1 t1) H := hP
  have hD : va_D AA (wL A cc B dd g1 o1 t1) := hD
  refine lv_istore hx hb d_L_law_1562 hl (by decide) (lv' := [(6, .int r1), (5, .int k1), (0, .ref b), (1, .ref (A 0)), (2, .ref (B 0)), (3, .ref (A 10)), (4, .int (nI j))]) rfl (fun ls hl => ?_)
  refine lv_aload_n hx hb d_L_law_1564 rfl (lv_at hl 4 rfl) ?_
  have hPc := hP.sub (ws' := wM B dd t1) [11, 12, 13, 14, 15, 16, 17, 18, 19] rfl
  have hDc := hD.sub (ws' := wM B dd t1) [11, 12, 13, 14, 15, 16, 17, 18, 19] (by decide) rfl
  have hKc := hK.sub (tys' := kM dd) [8, 9, 10, 11, 12, 13, 14, 15] rfl
  have hFc := va_free (wc := wM B dd t1) hD hS hA [11, 12, 13, 14, 15, 16, 17, 18, 19] rfl
  refine va_calli (va_runV (As := []) (rest := []) ⟨hx, hb, hml, hown, hts⟩ (k_M_thrown l D B dd t1 _ (t1.1, t1) rfl) (cwV 0 hts (ga_V ww_574 ww_575 ww_576 ww_4 ww_577) rfl rfl rfl (by decide +kernel) ⟨by decide, by decide⟩) (pw_pre (q0 := 0) (ci := 3) hPc hKc hDc hN rfl rfl) rfl rfl hl.1 rfl (lv_room (Nat.le_of_ble_eq_true rfl)) d_L_law_1565 ⟨hn, hk⟩) hS (fun q _ h => hFc q h) hFc (fun r9 u9 t9 H locs ht hvm hp hB hz1 hk1 hS => ?_)
  obtain ⟨hp1, hp2⟩ := Prod.mk.inj hp.symm
  subst hp1
  subst hp2
  obtain ⟨hP1, hK1, hD1⟩ := hB
  rw [ht] at hP1
  obtain ⟨hP, hD⟩ := va_join (wr := wX A cc (g1, o1)) (w1 := wM B dd t1) hP hD [11, 12, 13, 14, 15, 16, 17, 18, 19] [0, 1, 2, 3, 4, 5, 6, 7, 8, 9, 10] rfl rfl (by decide) (by decide) hk1 hFc hP1 hD1
  have hP : va_P D vwC (wL A cc B dd g1 o1 t1) H := hP
  have hD : va_D AA (wL A cc B dd g1 o1 t1) := hD
  refine lv_iload hx hb d_L_law_1568 (lv_at hl 1 rfl) ?_
  refine lv_icmp_eq hx hb d_L_law_1570 (tgt := 1575) (by decide) (fun h9 => ?_) (fun h9 => absurd hth h9)
  refine lv_iload hx hb d_L_law_1575 (lv_at hl 1 rfl) ?_
  have w1 : W p l e room_1 s m #[Value.ref b] below meth c H locs (n0 + 1) (k0 + 6) Q (F0 m 1592 ls []) := by
    refine lv_goto hx hb d_L_law_1592 (tgt := 1665) (by decide) ?_
    exact kont g1 o1 t1 _ _ ls hI hP hD hS (lv_sub hl [2, 3, 4, 5, 6] rfl)
  refine lv_if_ne hx hb d_L_law_1577 (tgt := 1592) (by decide) (fun h9 => w1) (fun h9 => ?_)
  refine lv_aload_n hx hb d_L_law_1580 rfl (lv_at hl 5 rfl) ?_
  refine lv_iconst (v := 0) hx hb d_L_law_1581 (by decide) ?_
  refine va_lald hx hb hK hP 10 7 rfl rfl (show vp_in 0 1 by unfold vp_in; decide) d_L_law_1582 ?_
  refine lv_iload hx hb d_L_law_1583 (lv_at hl 0 rfl) ?_
  refine lv_i2l (v := Int32.toInt64 r1) hx hb d_L_law_1585 rfl ?_
  refine W.lcmp hx hb d_L_law_1586 ?_
  exact lv_if_eq hx hb d_L_law_1587 (tgt := 1592) (by decide) (fun _ => w1) (fun h8 => absurd ((lg_cmp_eq _ _).mpr (hou h9)) h8)
set_option maxHeartbeats 4000000 in
set_option maxRecDepth 100000 in
theorem lw_type {p : Program} {l : Launch} {e : Env} {s : State} {m : MethodId} {below : List Frame} {meth : Method} {c : Code} {b L : Nat} {xs : Nat → Int32} {D : va_G} {A : Nat → Nat} {cc : Nat → ClassId} {B : Nat → Nat} {dd : Nat → ClassId} {AA : Nat → Prop} {Q : State → Prop} (C0 : lc p l s m meth c b L xs D cc dd AA) {I : sK → sM → Prop} (hAG : ag_type I) {g : sK} {o : Nat → Int64} {t : sM} (hI : I g t) {H : Heap} {locs : List Loc} (hP : va_P D vwC (wL A cc B dd g o t) H) (hD : va_D AA (wL A cc B dd g o t)) (hS : va_S AA s.heap H locs) {ls : Array Slot} {j : Nat} (hj : j + 7 ≤ L)
    (hl : lv_has ls 8 [(0, .ref b), (1, .ref (A 0)), (2, .ref (B 0)), (3, .ref (A 10)), (4, .int (nI j))]) {n0 k0 : Nat} (hn : n0 + 1 ≤ 1052) (hk : k0 + 6 ≤ 8410)
    (kont : ∀ (g : sK) (o : Nat → Int64) (t : sM) (H : Heap) (locs : List Loc) (ls : Array Slot), I g t → va_P D vwC (wL A cc B dd g o t) H → va_D AA (wL A cc B dd g o t) → va_S AA s.heap H locs → lv_has ls 8 [(0, .ref b), (1, .ref (A 0)), (2, .ref (B 0)), (3, .ref (A 10)), (4, .int (nI j))] → W p l e room_1 s m #[Value.ref b] below meth c H locs (n0 + 1) (k0 + 6) Q (F0 m 1665 ls [])) :
    W p l e room_1 s m #[Value.ref b] below meth c H locs n0 k0 Q (F0 m 1595 ls []) := by
  obtain ⟨hx, hb, hml, hown, hts, hXs, hbl, hbA, hA, hN, hX, hC, hZ, hK, hlocks, hl0, hL⟩ := C0
  have hw : ∀ w ∈ wa, w.before _ s = true := fun w h => hts w (List.mem_cons_of_mem _ h)
  have hn0 : n0 + 0 ≤ 1052 := by omega
  have hk0 : k0 + 0 ≤ 8410 := by omega
  refine lv_aload_n hx hb d_L_law_1595 rfl (lv_at hl 1 rfl) ?_
  refine lv_aload_n hx hb d_L_law_1596 rfl (lv_at hl 0 rfl) ?_
  refine lv_iload hx hb d_L_law_1597 (lv_at hl 4 rfl) ?_
  refine lv_iconst (v := 1) hx hb d_L_law_1599 (by decide) ?_
  refine lv_iadd hx hb d_L_law_1600 ?_
  refine va_sld hx hb hXs hbl hbA hS (li_1 hj hL) d_L_law_1601 ?_
  refine lv_aload_n hx hb d_L_law_1602 rfl (lv_at hl 3 rfl) ?_
  obtain ⟨k1, r1, g1, o1, t1, hf1, hf2, hth, hou, hI⟩ := hAG g o t (xs (Int32.toNatClampNeg (nI j + 1))) hI
  have hPc := hP.sub (ws' := wX A cc (g, o)) [0, 1, 2, 3, 4, 5, 6, 7, 8, 9, 10] rfl
  have hDc := hD.sub (ws' := wX A cc (g, o)) [0, 1, 2, 3, 4, 5, 6, 7, 8, 9, 10] (by decide) rfl
  have hKc := hK.sub (tys' := kX cc) [0, 1, 2, 3, 4, 5, 6, 7] rfl
  have hFc := va_free (wc := wX A cc (g, o)) hD hS hA [0, 1, 2, 3, 4, 5, 6, 7, 8, 9, 10] rfl
  refine va_calli (vx_runSW (As := [.ref (A 0), .int (xs (Int32.toNatClampNeg (nI j + 1))), .ref (A 10)]) (rest := []) ⟨hx, hb, hml, hown, hts⟩ (k_L_type l hl0 D A cc (g, o) (xs (Int32.toNatClampNeg (nI j + 1))) _ (k1, (g1, o1)) hf1) (vx_cwSW 3 hts (ga_S ww_512 ww_513 ww_0 ww_514) rfl rfl rfl (by decide +kernel) ⟨by decide, by decide⟩) (pwl_pre hPc hKc hDc hN hX hZ hC hS hFc) rfl rfl hl.1 rfl (lv_room (Nat.le_of_ble_eq_true rfl)) d_L_law_1603 ⟨hn, hk⟩) hS (fun q _ h => hFc q h) hFc (fun r9 u9 t9 H locs ht hvm hp hB hz1 hk1 hS => ?_)
  obtain ⟨hp1, hp2⟩ := Prod.mk.inj hp.symm
  subst hp1
  subst hp2
  obtain ⟨hP1, hK1, hD1⟩ := hB
  rw [ht] at hP1
  obtain ⟨hP, hD⟩ := va_join (wr := wM B dd t) (w1 := wX A cc (g1, o1)) hP hD [0, 1, 2, 3, 4, 5, 6, 7, 8, 9, 10] [11, 12, 13, 14, 15, 16, 17, 18, 19] rfl rfl (by decide) (by decide) hk1 hFc hP1 hD1
  have hP := hP.sub (ws' := wL A cc B dd g1 o1 t) [9, 10, 11, 12, 13, 14, 15, 16, 17, 18, 19, 0, 1, 2, 3, 4, 5, 6, 7, 8] rfl
  have hD := hD.sub (ws' := wL A cc B dd g1 o1 t) [9, 10, 11, 12, 13, 14, 15, 16, 17, 18, 19, 0, 1, 2, 3, 4, 5, 6, 7, 8] (by decide) rfl
  refine lv_istore hx hb d_L_law_1606 hl (by decide) (lv' := [(5, .int k1), (0, .ref b), (1, .ref (A 0)), (2, .ref (B 0)), (3, .ref (A 10)), (4, .int (nI j))]) rfl (fun ls hl => ?_)
  refine lv_aload_n hx hb d_L_law_1608 rfl (lv_at hl 3 rfl) ?_
  refine lv_aload_n hx hb d_L_law_1609 rfl (lv_at hl 1 rfl) ?_
  refine lv_iload hx hb d_L_law_1610 (lv_at hl 5 rfl) ?_
  refine lv_iconst (v := 1) hx hb d_L_law_1612 (by decide) ?_
  refine lv_iadd hx hb d_L_law_1613 ?_
  refine va_sld hx hb hXs hbl hbA hS (li_1 hj hL) d_L_law_1614 ?_
  have hPc := hP.sub (ws' := wM B dd t) [11, 12, 13, 14, 15, 16, 17, 18, 19] rfl
  have hDc := hD.sub (ws' := wM B dd t) [11, 12, 13, 14, 15, 16, 17, 18, 19] (by decide) rfl
  have hKc := hK.sub (tys' := kM dd) [8, 9, 10, 11, 12, 13, 14, 15] rfl
  have hFc := va_free (wc := wM B dd t) hD hS hA [11, 12, 13, 14, 15, 16, 17, 18, 19] rfl
  refine va_calli (va_runV (As := [.int (xs (Int32.toNatClampNeg (nI j + 1)))]) (rest := []) ⟨hx, hb, hml, hown, hts⟩ (k_M_type l D B dd t (xs (Int32.toNatClampNeg (nI j + 1))) _ (r1, t1) hf2) (cwV 1 hts (ga_V ww_747 ww_748 ww_749 ww_4 ww_750) rfl rfl rfl (by decide +kernel) ⟨by decide, by decide⟩) (pw_pre (q0 := 0) (ci := 3) hPc hKc hDc hN rfl rfl) rfl rfl hl.1 rfl (lv_room (Nat.le_of_ble_eq_true rfl)) d_L_law_1615 ⟨hn, hk⟩) hS (fun q _ h => hFc q h) hFc (fun r9 u9 t9 H locs ht hvm hp hB hz1 hk1 hS => ?_)
  obtain ⟨hp1, hp2⟩ := Prod.mk.inj hp.symm
  subst hp1
  subst hp2
  obtain ⟨hP1, hK1, hD1⟩ := hB
  rw [ht] at hP1
  obtain ⟨hP, hD⟩ := va_join (wr := wX A cc (g1, o1)) (w1 := wM B dd t1) hP hD [11, 12, 13, 14, 15, 16, 17, 18, 19] [0, 1, 2, 3, 4, 5, 6, 7, 8, 9, 10] rfl rfl (by decide) (by decide) hk1 hFc hP1 hD1
  have hP : va_P D vwC (wL A cc B dd g1 o1 t1) H := hP
  have hD : va_D AA (wL A cc B dd g1 o1 t1) := hD
  refine lv_istore hx hb d_L_law_1618 hl (by decide) (lv' := [(6, .int r1), (5, .int k1), (0, .ref b), (1, .ref (A 0)), (2, .ref (B 0)), (3, .ref (A 10)), (4, .int (nI j))]) rfl (fun ls hl => ?_)
  refine lv_aload_n hx hb d_L_law_1620 rfl (lv_at hl 4 rfl) ?_
  have hPc := hP.sub (ws' := wM B dd t1) [11, 12, 13, 14, 15, 16, 17, 18, 19] rfl
  have hDc := hD.sub (ws' := wM B dd t1) [11, 12, 13, 14, 15, 16, 17, 18, 19] (by decide) rfl
  have hKc := hK.sub (tys' := kM dd) [8, 9, 10, 11, 12, 13, 14, 15] rfl
  have hFc := va_free (wc := wM B dd t1) hD hS hA [11, 12, 13, 14, 15, 16, 17, 18, 19] rfl
  refine va_calli (va_runV (As := []) (rest := []) ⟨hx, hb, hml, hown, hts⟩ (k_M_thrown l D B dd t1 _ (t1.1, t1) rfl) (cwV 0 hts (ga_V ww_574 ww_575 ww_576 ww_4 ww_577) rfl rfl rfl (by decide +kernel) ⟨by decide, by decide⟩) (pw_pre (q0 := 0) (ci := 3) hPc hKc hDc hN rfl rfl) rfl rfl hl.1 rfl (lv_room (Nat.le_of_ble_eq_true rfl)) d_L_law_1621 ⟨hn, hk⟩) hS (fun q _ h => hFc q h) hFc (fun r9 u9 t9 H locs ht hvm hp hB hz1 hk1 hS => ?_)
  obtain ⟨hp1, hp2⟩ := Prod.mk.inj hp.symm
  subst hp1
  subst hp2
  obtain ⟨hP1, hK1, hD1⟩ := hB
  rw [ht] at hP1
  obtain ⟨hP, hD⟩ := va_join (wr := wX A cc (g1, o1)) (w1 := wM B dd t1) hP hD [11, 12, 13, 14, 15, 16, 17, 18, 19] [0, 1, 2, 3, 4, 5, 6, 7, 8, 9, 10] rfl rfl (by decide) (by decide) hk1 hFc hP1 hD1
  have hP : va_P D vwC (wL A cc B dd g1 o1 t1) H := hP
  have hD : va_D AA (wL A cc B dd g1 o1 t1) := hD
  refine lv_iload hx hb d_L_law_1624 (lv_at hl 1 rfl) ?_
  refine lv_icmp_eq hx hb d_L_law_1626 (tgt := 1631) (by decide) (fun h9 => ?_) (fun h9 => absurd hth h9)
  refine lv_iload hx hb d_L_law_1631 (lv_at hl 1 rfl) ?_
  have w1 : W p l e room_1 s m #[Value.ref b] below meth c H locs (n0 + 1) (k0 + 6) Q (F0 m 1648 ls []) := by
    refine lv_goto hx hb d_L_law_1648 (tgt := 1665) (by decide) ?_
    exact kont g1 o1 t1 _ _ ls hI hP hD hS (lv_sub hl [2, 3, 4, 5, 6] rfl)
  refine lv_if_ne hx hb d_L_law_1633 (tgt := 1648) (by decide) (fun h9 => w1) (fun h9 => ?_)
  refine lv_aload_n hx hb d_L_law_1636 rfl (lv_at hl 5 rfl) ?_
  refine lv_iconst (v := 0) hx hb d_L_law_1637 (by decide) ?_
  refine va_lald hx hb hK hP 10 7 rfl rfl (show vp_in 0 1 by unfold vp_in; decide) d_L_law_1638 ?_
  refine lv_iload hx hb d_L_law_1639 (lv_at hl 0 rfl) ?_
  refine lv_i2l (v := Int32.toInt64 r1) hx hb d_L_law_1641 rfl ?_
  refine W.lcmp hx hb d_L_law_1642 ?_
  exact lv_if_eq hx hb d_L_law_1643 (tgt := 1648) (by decide) (fun _ => w1) (fun h8 => absurd ((lg_cmp_eq _ _).mpr (hou h9)) h8)
set_option maxHeartbeats 4000000 in
set_option maxRecDepth 100000 in
theorem lw_read {p : Program} {l : Launch} {e : Env} {s : State} {m : MethodId} {below : List Frame} {meth : Method} {c : Code} {b L : Nat} {xs : Nat → Int32} {D : va_G} {A : Nat → Nat} {cc : Nat → ClassId} {B : Nat → Nat} {dd : Nat → ClassId} {AA : Nat → Prop} {Q : State → Prop} (C0 : lc p l s m meth c b L xs D cc dd AA) {I : sK → sM → Prop} (hAG : ag_read I) {g : sK} {o : Nat → Int64} {t : sM} (hI : I g t) {H : Heap} {locs : List Loc} (hP : va_P D vwC (wL A cc B dd g o t) H) (hD : va_D AA (wL A cc B dd g o t)) (hS : va_S AA s.heap H locs) {ls : Array Slot} {j : Nat} (hj : j + 7 ≤ L)
    (hl : lv_has ls 8 [(0, .ref b), (1, .ref (A 0)), (2, .ref (B 0)), (3, .ref (A 10)), (4, .int (nI j))]) {n0 k0 : Nat} (hn : n0 + 1 ≤ 1052) (hk : k0 + 6 ≤ 8410)
    (kont : ∀ (g : sK) (o : Nat → Int64) (t : sM) (H : Heap) (locs : List Loc) (ls : Array Slot), I g t → va_P D vwC (wL A cc B dd g o t) H → va_D AA (wL A cc B dd g o t) → va_S AA s.heap H locs → lv_has ls 8 [(0, .ref b), (1, .ref (A 0)), (2, .ref (B 0)), (3, .ref (A 10)), (4, .int (nI j))] → W p l e room_1 s m #[Value.ref b] below meth c H locs (n0 + 1) (k0 + 6) Q (F0 m 1665 ls [])) :
    W p l e room_1 s m #[Value.ref b] below meth c H locs n0 k0 Q (F0 m 1651 ls []) := by
  obtain ⟨hx, hb, hml, hown, hts, hXs, hbl, hbA, hA, hN, hX, hC, hZ, hK, hlocks, hl0, hL⟩ := C0
  have hw : ∀ w ∈ wa, w.before _ s = true := fun w h => hts w (List.mem_cons_of_mem _ h)
  have hn0 : n0 + 0 ≤ 1052 := by omega
  have hk0 : k0 + 0 ≤ 8410 := by omega
  refine lv_aload_n hx hb d_L_law_1651 rfl (lv_at hl 1 rfl) ?_
  obtain ⟨r1, g1, t1, hf1, hf2, hI⟩ := hAG g t  hI
  have hPc := hP.sub (ws' := wK A cc g) [0, 1, 2, 3, 4, 5, 6, 7, 8, 9] rfl
  have hDc := hD.sub (ws' := wK A cc g) [0, 1, 2, 3, 4, 5, 6, 7, 8, 9] (by decide) rfl
  have hKc := hK.sub (tys' := kK cc) [0, 1, 2, 3, 4, 5, 6] rfl
  have hFc := va_free (wc := wK A cc g) hD hS hA [0, 1, 2, 3, 4, 5, 6, 7, 8, 9] rfl
  refine va_calll (va_runV (As := []) (rest := []) ⟨hx, hb, hml, hown, hts⟩ (k_K_read l D A cc g  _ (r1, g1) hf1) (cwV 0 hts (ga_V ww_175 ww_176 ww_177 ww_1 ww_178) rfl rfl rfl (by decide +kernel) ⟨by decide, by decide⟩) (pw_pre (q0 := 0) (ci := 2) hPc hKc hDc hN rfl rfl) rfl rfl hl.1 rfl (lv_room (Nat.le_of_ble_eq_true rfl)) d_L_law_1652 ⟨hn0, hk0⟩) hS (fun q _ h => hFc q h) hFc (fun r9 u9 t9 H locs ht hvm hp hB hz1 hk1 hS => ?_)
  obtain ⟨hp1, hp2⟩ := Prod.mk.inj hp.symm
  subst hp1
  subst hp2
  obtain ⟨hP1, hK1, hD1⟩ := hB
  rw [ht] at hP1
  obtain ⟨hP, hD⟩ := va_join (wr := [(A 10, .inl (cc 10, 1, .inr (.inl o))), (B 0, .inr (3, [.int t.1, .ref (B 1), .ref (B 2), .int t.2.2.2.1, .int t.2.2.2.2.1, .ref (B 3), .ref (B 4), .ref (B 5), .ref (B 6), .int t.2.2.2.2.2.2.2.2.2.1, .ref (B 7), .int t.2.2.2.2.2.2.2.2.2.2.2.1, .ref (B 8)])), (B 1, .inl (dd 1, 6, .inr (.inl t.2.1))), (B 2, .inl (dd 2, 6, .inr (.inl t.2.2.1))), (B 3, .inl (dd 3, 8, .inr (.inl t.2.2.2.2.2.1))), (B 4, .inl (dd 4, 8, .inr (.inl t.2.2.2.2.2.2.1))), (B 5, .inl (dd 5, 8, .inl t.2.2.2.2.2.2.2.1)), (B 6, .inl (dd 6, 8, .inl t.2.2.2.2.2.2.2.2.1)), (B 7, .inl (dd 7, 20, .inl t.2.2.2.2.2.2.2.2.2.2.1)), (B 8, .inl (dd 8, 16, .inl t.2.2.2.2.2.2.2.2.2.2.2.2))]) (w1 := wK A cc g1) hP hD [0, 1, 2, 3, 4, 5, 6, 7, 8, 9] [10, 11, 12, 13, 14, 15, 16, 17, 18, 19] rfl rfl (by decide) (by decide) hk1 hFc hP1 hD1
  have hP := hP.sub (ws' := wL A cc B dd g1 o t) [10, 11, 12, 13, 14, 15, 16, 17, 18, 19, 0, 1, 2, 3, 4, 5, 6, 7, 8, 9] rfl
  have hD := hD.sub (ws' := wL A cc B dd g1 o t) [10, 11, 12, 13, 14, 15, 16, 17, 18, 19, 0, 1, 2, 3, 4, 5, 6, 7, 8, 9] (by decide) rfl
  refine lv_aload_n hx hb d_L_law_1655 rfl (lv_at hl 2 rfl) ?_
  have hPc := hP.sub (ws' := wM B dd t) [11, 12, 13, 14, 15, 16, 17, 18, 19] rfl
  have hDc := hD.sub (ws' := wM B dd t) [11, 12, 13, 14, 15, 16, 17, 18, 19] (by decide) rfl
  have hKc := hK.sub (tys' := kM dd) [8, 9, 10, 11, 12, 13, 14, 15] rfl
  have hFc := va_free (wc := wM B dd t) hD hS hA [11, 12, 13, 14, 15, 16, 17, 18, 19] rfl
  refine va_calll (va_runV (As := []) (rest := [.long r1]) ⟨hx, hb, hml, hown, hts⟩ (k_M_read l D B dd t  _ (r1, t1) hf2) (cwV 0 hts (ga_V ww_751 ww_752 ww_753 ww_4 ww_754) rfl rfl rfl (by decide +kernel) ⟨by decide, by decide⟩) (pw_pre (q0 := 0) (ci := 3) hPc hKc hDc hN rfl rfl) rfl rfl hl.1 rfl (lv_room (Nat.le_of_ble_eq_true rfl)) d_L_law_1656 ⟨hn0, hk0⟩) hS (fun q _ h => hFc q h) hFc (fun r9 u9 t9 H locs ht hvm hp hB hz1 hk1 hS => ?_)
  obtain ⟨hp1, hp2⟩ := Prod.mk.inj hp.symm
  subst hp1
  subst hp2
  obtain ⟨hP1, hK1, hD1⟩ := hB
  rw [ht] at hP1
  obtain ⟨hP, hD⟩ := va_join (wr := wX A cc (g1, o)) (w1 := wM B dd t1) hP hD [11, 12, 13, 14, 15, 16, 17, 18, 19] [0, 1, 2, 3, 4, 5, 6, 7, 8, 9, 10] rfl rfl (by decide) (by decide) hk1 hFc hP1 hD1
  have hP : va_P D vwC (wL A cc B dd g1 o t1) H := hP
  have hD : va_D AA (wL A cc B dd g1 o t1) := hD
  refine W.lcmp hx hb d_L_law_1659 ?_
  refine lv_if_eq hx hb d_L_law_1660 (tgt := 1665) (by decide) (fun h9 => ?_) (fun h9 => absurd ((lg_cmp_eq _ _).mpr rfl) h9)
  refine W.widen (k := n0 + 1) (n := k0 + 6) (Nat.le_add_right _ _) (Nat.le_add_right _ _) ?_
  exact kont g1 o t1 _ _ ls hI hP hD hS (lv_sub hl [0, 1, 2, 3, 4] rfl)
