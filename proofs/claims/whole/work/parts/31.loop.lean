def R_law : String := "EvenCurveKeysLaw"
def lw_P (b : Addr) (xs : List Int32) (args : Array Value) (s : State) : Prop := args = #[.ref b] ∧ s.IntsAt b xs ∧ xs.length ≤ 3584 ∧ (Jvm.Cond.and given_1 narrow_1).before args s = true
def lw_Q (_ : Array Value) (s : State) (o : Outcome) (t : State) : Prop := o = .returned (some (.int 1)) ∧ Framed s o t [] 1052 8410
def lw_Z (below : List Frame) (a : Array Value) (s : State) : State → Prop := fun t => ∃ o, t.status = .running ∧ Ended t below o ∧ lw_Q a s o t
/-- the law's own end, with 1 on the stack, nothing written that was there before, its room as the claim has it -/
theorem lw_ret {p : Program} {l : Launch} {e : Env} {s : State} {m : MethodId} {below : List Frame} {meth : Method} {c : Code} {b : Nat} (hx : p.tables.exec = Jvm.exec) (hb : c.code = code) (hr : meth.sig.returnType = ret) (hlocks : meth.locks = false) {pc : Nat} {H : Heap} {ls : Array Slot} (hdg : decode code pc = .ok (.ireturn, 1)) : W p l e room_1 s m #[Value.ref b] below meth c H [] 1052 8410 (lw_Z below #[Value.ref b] s) (F0 m pc ls [.int 1]) := by
  intro T hT X
  obtain ⟨fs, hret, hrun, hended, hW, hframe⟩ := X.leave (v := some (.int 1)) (hlocks := hlocks) (fun h => by rw [hr] at h; cases h)
  have hmeth' : T.vm.method? m = some meth := X.method'
  refine ⟨T.setFrames fs, ?_, .returned (some (.int 1)), hrun, hended, rfl, ⟨_, rfl⟩, hW, hframe⟩
  jvm_step X.here [X.here.top, hx, hb, hdg, hmeth', hr, ret, narrow_b1]
  (try refine ⟨rfl, ?_⟩); (try refine ⟨rfl, ?_⟩)
  first | (intro acts; rw [hret _ acts rfl rfl rfl]) | rw [hret _ _ rfl rfl rfl]
  exact Steps.refl _
/-- what holds at the law's entry: the machine, the code, the tables' words (any of lw_tbl by 'hts w (by decide +kernel)'), the script of L ints xs at the cell b, what the Statement gives of the start (any of its parts by flat_of_before) -/
def lw_At (p : Program) (s : State) (m : MethodId) (meth : Method) (c : Code) (b L : Nat) (xs : Nat → Int32) : Prop :=
  p.tables.exec = Jvm.exec ∧ c.code = code ∧ meth.sig.returnType = ret ∧ c.maxLocals = 8 ∧ s.vm.findClass R_law = some m.cls ∧ (∀ w ∈ lw_tbl, w.before #[Value.ref b] s = true) ∧ va_X b L xs s s.heap ∧ b < s.heap.size ∧ meth.locks = false ∧ (Jvm.Cond.and given_1 narrow_1).before #[Value.ref b] s = true
theorem nw_in : ∀ w ∈ nwl, w ∈ lw_tbl := by decide +kernel
theorem nx_in : ∀ w ∈ nxl, w ∈ lw_tbl := by decide +kernel
theorem nc_in : ∀ q ∈ ncl, Cond.not (.castable q.1 q.2) ∈ flatC (Jvm.Cond.and given_1 narrow_1) := by decide +kernel
theorem zs_0 : Cond.laysStatic Bundle.tN "UNASSIGNED_STACK" Bundle.steD ∈ lw_tbl := by decide +kernel
theorem zs_1 : Cond.laysStatic Bundle.tN "SUPPRESSED_SENTINEL" Bundle.listD ∈ lw_tbl := by decide +kernel
/-! The law's loop and its entry. -/
def agAll (I : sK → sM → Prop) : Prop := ag_secret I ∧ ag_open I ∧ ag_code I ∧ ag_even I ∧ ag_tweak I ∧ ag_combine I ∧ ag_linear I ∧ ag_sign I ∧ ag_mark I ∧ ag_good I ∧ ag_recover I ∧ ag_prove I ∧ ag_holds I ∧ ag_bundle I ∧ ag_right I ∧ ag_agree I ∧ ag_written I ∧ ag_type I ∧ ag_read I
theorem lw_toI {n : Nat} (h : n < 2 ^ 31) : (Int32.ofNat n).toInt = (n : Int) := nI_toInt h
theorem lw_cmp {j L : Nat} (hj : j ≤ 4000) (hL : L ≤ 3584) : (Int32.ofNat L - 7 < nI j) ↔ L < j + 7 := by
  rw [Int32.lt_iff_toInt_lt, Int32.toInt_sub, lw_toI (by omega), nI_toInt (by omega)]
  have h7 : (7 : Int32).toInt = 7 := by decide
  rw [h7, Int.bmod_eq_of_le (by omega) (by omega)]
  omega
theorem lw_and (x : Int32) : ∃ k : Nat, k < 32 ∧ x &&& 31 = nI k := pk_andE x 5 (by decide)
theorem lw_k {k : Nat} (h : k < 32) : (nI k).toInt = (k : Int) := nI_toInt (by omega)
set_option maxHeartbeats 4000000 in
set_option maxRecDepth 100000 in
theorem lw_loop {p : Program} {l : Launch} {e : Env} {s : State} {m : MethodId} {below : List Frame} {meth : Method} {c : Code} {b L : Nat} {xs : Nat → Int32} {D : va_G} {A : Nat → Nat} {cc : Nat → ClassId} {B : Nat → Nat} {dd : Nat → ClassId} {AA : Nat → Prop} (hr : meth.sig.returnType = ret) (hlen : L ≤ 3584) (hAs : ∀ q, AA q → s.heap.size ≤ q) (C0 : lc p l s m meth c b L xs D cc dd AA) {I : sK → sM → Prop} (hAG : agAll I) : ∀ (d i : Nat), L < 7 * (i + d) + 7 → i ≤ 512 → ∀ (g : sK) (o : Nat → Int64) (t : sM) (H : Heap) (locs : List Loc) (ls : Array Slot), I g t → va_P D vwC (wL A cc B dd g o t) H → va_D AA (wL A cc B dd g o t) → va_S AA s.heap H locs → lv_has ls 8 [(0, .ref b), (1, .ref (A 0)), (2, .ref (B 0)), (3, .ref (A 10)), (4, .int (nI (7 * i)))] → W p l e room_1 s m #[Value.ref b] below meth c H locs (20 + i) (170 + 6 * i) (lw_Z below #[Value.ref b] s) (F0 m 23 ls []) := by
  have C1 := C0
  obtain ⟨hx, hb, hml, hown, hts, hXs, hbl, hbA, hA, hN, hX, hC, hZ, hK, hlocks, hl0, hL⟩ := C0
  obtain ⟨g_secret, g_open, g_code, g_even, g_tweak, g_combine, g_linear, g_sign, g_mark, g_good, g_recover, g_prove, g_holds, g_bundle, g_right, g_agree, g_written, g_type, g_read⟩ := hAG
  intro d
  have ex : ∀ (i : Nat), i ≤ 512 → ∀ (H : Heap) (locs : List Loc) (ls : Array Slot), va_S AA s.heap H locs → W p l e room_1 s m #[Value.ref b] below meth c H locs (20 + i) (170 + 6 * i) (lw_Z below #[Value.ref b] s) (F0 m 1671 ls []) := by
    intro i hi H locs ls hS
    refine va_forget (fun q h => hAs _ (hS.2.2 q h)) ?_
    refine W.widen (k := 1052) (n := 8410) (by omega) (by omega) ?_
    refine lv_iconst (v := 1) hx hb d_L_law_1671 (by decide) ?_
    exact lw_ret hx hb hr hlocks d_L_law_1672
  induction d with
  | zero =>
    intro i hd hi g o t H locs ls hI hP hD hS hl
    refine lv_iload hx hb d_L_law_23 (lv_at hl 4 rfl) ?_
    refine lv_aload_n hx hb d_L_law_25 rfl (lv_at hl 0 rfl) ?_
    refine va_slen hx hb hXs hbl hbA hS d_L_law_26 ?_
    refine lv_bipush (v := 7) hx hb d_L_law_27 (by decide) ?_
    refine lv_isub hx hb d_L_law_29 ?_
    refine lv_icmp_gt hx hb d_L_law_30 (tgt := 1671) (by decide) (fun h9 => ?_) (fun h9 => absurd ((lw_cmp (by omega) hlen).mpr (by omega)) h9)
    exact ex i hi _ _ ls hS
  | succ d ih =>
    intro i hd hi g o t H locs ls hI hP hD hS hl
    refine lv_iload hx hb d_L_law_23 (lv_at hl 4 rfl) ?_
    refine lv_aload_n hx hb d_L_law_25 rfl (lv_at hl 0 rfl) ?_
    refine va_slen hx hb hXs hbl hbA hS d_L_law_26 ?_
    refine lv_bipush (v := 7) hx hb d_L_law_27 (by decide) ?_
    refine lv_isub hx hb d_L_law_29 ?_
    refine lv_icmp_gt hx hb d_L_law_30 (tgt := 1671) (by decide) (fun h9 => ex i hi _ _ ls hS) (fun h9 => ?_)
    have hj : 7 * i + 7 ≤ L := Nat.not_lt.mp fun h => h9 ((lw_cmp (by omega) hlen).mpr h)
    refine lv_aload_n hx hb d_L_law_33 rfl (lv_at hl 0 rfl) ?_
    refine lv_iload hx hb d_L_law_34 (lv_at hl 4 rfl) ?_
    refine va_sld hx hb hXs hbl hbA hS (li_0 hj hL) d_L_law_36 ?_
    refine lv_bipush (v := 31) hx hb d_L_law_37 (by decide) ?_
    refine lv_iand hx hb d_L_law_39 ?_
    have kont : ∀ (g : sK) (o : Nat → Int64) (t : sM) (H : Heap) (locs : List Loc) (ls : Array Slot), I g t → va_P D vwC (wL A cc B dd g o t) H → va_D AA (wL A cc B dd g o t) → va_S AA s.heap H locs → lv_has ls 8 [(0, .ref b), (1, .ref (A 0)), (2, .ref (B 0)), (3, .ref (A 10)), (4, .int (nI (7 * i)))] → W p l e room_1 s m #[Value.ref b] below meth c H locs ((20 + i) + 1) ((170 + 6 * i) + 6) (lw_Z below #[Value.ref b] s) (F0 m 1665 ls []) := by
      intro g o t H locs ls hI hP hD hS hl
      refine lv_iinc hx hb d_L_law_1665 hl (k := 4) (v := nI (7 * (i + 1))) rfl (nI_add (7 * i) 7) (by decide) (lv' := [(4, .int (nI (7 * (i + 1)))), (0, .ref b), (1, .ref (A 0)), (2, .ref (B 0)), (3, .ref (A 10))]) rfl (fun ls hl => ?_)
      refine lv_goto hx hb d_L_law_1668 (tgt := 23) (by decide) ?_
      have q := ih (i + 1) (by omega) (by omega) g o t H locs ls hI hP hD hS (lv_sub hl [1, 2, 3, 4, 0] rfl)
      exact q
    obtain ⟨k, hk, hke⟩ := lw_and (xs (Int32.toNatClampNeg (nI (7 * i))))
    rw [hke]
    by_cases h18 : 18 < k
    · refine lv_tableOut hx hb d_L_law_40 (tgt := 1665) (Or.inr (by rw [lw_k hk]; omega)) (by decide) ?_
      refine W.widen (k := 20 + i + 1) (n := 170 + 6 * i + 6) (Nat.le_add_right _ _) (Nat.le_add_right _ _) ?_
      exact kont g o t _ _ ls hI hP hD hS hl
    · have h1 : ¬ (nI k).toInt < 0 := by rw [lw_k hk]; omega
      have h2 : ¬ 18 < (nI k).toInt := by rw [lw_k hk]; omega
      rcases (show k = 0 ∨ k = 1 ∨ k = 2 ∨ k = 3 ∨ k = 4 ∨ k = 5 ∨ k = 6 ∨ k = 7 ∨ k = 8 ∨ k = 9 ∨ k = 10 ∨ k = 11 ∨ k = 12 ∨ k = 13 ∨ k = 14 ∨ k = 15 ∨ k = 16 ∨ k = 17 ∨ k = 18 by omega) with rfl | rfl | rfl | rfl | rfl | rfl | rfl | rfl | rfl | rfl | rfl | rfl | rfl | rfl | rfl | rfl | rfl | rfl | rfl
      · refine lv_tableIn hx hb d_L_law_40 h1 h2 (off := 92) (tgt := 132) (by decide +kernel) (by decide) ?_
        exact lw_secret C1 g_secret hI hP hD hS hj hl (by omega) (by omega) kont
      · refine lv_tableIn hx hb d_L_law_40 h1 h2 (off := 159) (tgt := 199) (by decide +kernel) (by decide) ?_
        exact lw_open C1 g_open hI hP hD hS hj hl (by omega) (by omega) kont
      · refine lv_tableIn hx hb d_L_law_40 h1 h2 (off := 239) (tgt := 279) (by decide +kernel) (by decide) ?_
        exact lw_code C1 g_code hI hP hD hS hj hl (by omega) (by omega) kont
      · refine lv_tableIn hx hb d_L_law_40 h1 h2 (off := 294) (tgt := 334) (by decide +kernel) (by decide) ?_
        exact lw_even C1 g_even hI hP hD hS hj hl (by omega) (by omega) kont
      · refine lv_tableIn hx hb d_L_law_40 h1 h2 (off := 320) (tgt := 360) (by decide +kernel) (by decide) ?_
        exact lw_tweak C1 g_tweak hI hP hD hS hj hl (by omega) (by omega) kont
      · refine lv_tableIn hx hb d_L_law_40 h1 h2 (off := 415) (tgt := 455) (by decide +kernel) (by decide) ?_
        exact lw_combine C1 g_combine hI hP hD hS hj hl (by omega) (by omega) kont
      · refine lv_tableIn hx hb d_L_law_40 h1 h2 (off := 494) (tgt := 534) (by decide +kernel) (by decide) ?_
        exact lw_linear C1 g_linear hI hP hD hS hj hl (by omega) (by omega) kont
      · refine lv_tableIn hx hb d_L_law_40 h1 h2 (off := 573) (tgt := 613) (by decide +kernel) (by decide) ?_
        exact lw_sign C1 g_sign hI hP hD hS hj hl (by omega) (by omega) kont
      · refine lv_tableIn hx hb d_L_law_40 h1 h2 (off := 672) (tgt := 712) (by decide +kernel) (by decide) ?_
        exact lw_mark C1 g_mark hI hP hD hS hj hl (by omega) (by omega) kont
      · refine lv_tableIn hx hb d_L_law_40 h1 h2 (off := 685) (tgt := 725) (by decide +kernel) (by decide) ?_
        exact lw_good C1 g_good hI hP hD hS hj hl (by omega) (by omega) kont
      · refine lv_tableIn hx hb d_L_law_40 h1 h2 (off := 816) (tgt := 856) (by decide +kernel) (by decide) ?_
        exact lw_recover C1 g_recover hI hP hD hS hj hl (by omega) (by omega) kont
      · refine lv_tableIn hx hb d_L_law_40 h1 h2 (off := 953) (tgt := 993) (by decide +kernel) (by decide) ?_
        exact lw_prove C1 g_prove hI hP hD hS hj hl (by omega) (by omega) kont
      · refine lv_tableIn hx hb d_L_law_40 h1 h2 (off := 1096) (tgt := 1136) (by decide +kernel) (by decide) ?_
        exact lw_holds C1 g_holds hI hP hD hS hj hl (by omega) (by omega) kont
      · refine lv_tableIn hx hb d_L_law_40 h1 h2 (off := 1227) (tgt := 1267) (by decide +kernel) (by decide) ?_
        exact lw_bundle C1 g_bundle hI hP hD hS hj hl (by omega) (by omega) kont
      · refine lv_tableIn hx hb d_L_law_40 h1 h2 (off := 1351) (tgt := 1391) (by decide +kernel) (by decide) ?_
        exact lw_right C1 g_right hI hP hD hS hj hl (by omega) (by omega) kont
      · refine lv_tableIn hx hb d_L_law_40 h1 h2 (off := 1408) (tgt := 1448) (by decide +kernel) (by decide) ?_
        exact lw_agree C1 g_agree hI hP hD hS hj hl (by omega) (by omega) kont
      · refine lv_tableIn hx hb d_L_law_40 h1 h2 (off := 1475) (tgt := 1515) (by decide +kernel) (by decide) ?_
        exact lw_written C1 g_written hI hP hD hS hj hl (by omega) (by omega) kont
      · refine lv_tableIn hx hb d_L_law_40 h1 h2 (off := 1555) (tgt := 1595) (by decide +kernel) (by decide) ?_
        exact lw_type C1 g_type hI hP hD hS hj hl (by omega) (by omega) kont
      · refine lv_tableIn hx hb d_L_law_40 h1 h2 (off := 1611) (tgt := 1651) (by decide +kernel) (by decide) ?_
        exact lw_read C1 g_read hI hP hD hS hj hl (by omega) (by omega) kont
set_option maxHeartbeats 4000000 in
set_option maxRecDepth 100000 in
theorem lw_begin {p : Program} {e : Env} {s : State} {m : MethodId} {below : List Frame} {meth : Method} {c : Code} (l : Launch) (hl0 : l.stackTraces = false) {b L : Nat} {xs : Nat → Int32} (hlen : L ≤ 3584) (C0 : lw_At p s m meth c b L xs) {I : sK → sM → Prop} (hAG : agAll I) {gr : sM} (hgr : f_M_init = some gr) (hI0 : I zK gr) : W p l e room_1 s m #[Value.ref b] below meth c s.heap [] 0 0 (lw_Z below #[Value.ref b] s) (entryFrame m ([Value.ref b] : List Value).toArray 8) := by
  obtain ⟨hx, hb, hr, hml, hown, htt, hXs, hbl, hlocks, hgv⟩ := C0
  have hw : ∀ w ∈ wa, w.before #[Value.ref b] s = true := fun w h => htt w (List.mem_filter.mp h).1
  have hts : ∀ w ∈ Cond.initialized "EvenCurveKeys" :: wa, w.before #[Value.ref b] s = true := fun w h => by
    rcases List.mem_cons.mp h with rfl | h
    · exact hw _ ww_1
    · exact hw _ h
  have hN : nw s := fun w h => va_Nw.of (nw_on w h) (htt w (nw_in w h))
  have hX : nx s := fun w h => va_Nw.of (nx_on w h) (htt w (nx_in w h))
  have hfl := flat_of_before _ hgv
  have hC : nc s := fun q h => va_Nc.of (hfl _ (nc_in q h))
  generalize hAe : (fun q : Nat => s.heap.size ≤ q) = AA
  have hAs : ∀ q, AA q → s.heap.size ≤ q := fun q h => by rw [← hAe] at h; exact h
  have hA : ∀ q : Nat, s.heap.size ≤ q → AA q := fun q h => by rw [← hAe]; exact h
  have hbA : ¬ AA b := fun h => absurd (hAs _ h) (Nat.not_le.mpr hbl)
  have hZ : zq AA s s.heap := ⟨vx_Zqof (htt _ zs_0) (hw _ ww_5) (hfl _ (by decide +kernel)) (fun a h1 h2 => absurd (hAs _ h2) (Nat.not_le.mpr h1)), vx_Zqof (htt _ zs_1) (hw _ ww_5) (hfl _ (by decide +kernel)) (fun a h1 h2 => absurd (hAs _ h2) (Nat.not_le.mpr h1))⟩
  obtain ⟨c0, s0, u0⟩ := u_known hts in_I (hw _ ww_26)
  obtain ⟨c1, s1, u1⟩ := u_known hts in_T (hw _ ww_50)
  obtain ⟨c2, s2, u2⟩ := u_known hts in_K (hw _ ww_18)
  obtain ⟨c3, s3, u3⟩ := u_known hts in_M (hw _ ww_528)
  generalize hDe : ((fun k => [c0, c1, c2, c3].getD k 0, fun k => match k with | 0 => s0 | 1 => s1 | 2 => s2 | _ => s3) : va_G) = D
  have hK : va_K D vwC [] s := by
    subst hDe
    refine ⟨fun k q hq => ?_, fun k q hq => by simp at hq⟩
    rcases k with _ | _ | _ | _ | k
    · cases hq; exact u0
    · cases hq; exact u1
    · cases hq; exact u2
    · cases hq; exact u3
    · exact absurd hq (by simp [vwC])
  have hP : va_P D vwC [] s.heap := fun k q hq => by simp at hq
  have hD : va_D AA [] := ⟨fun i j p q h => by simp at h, fun k q h => by simp at h⟩
  have hS : va_S AA s.heap s.heap [] := va_S.rf
  have hl := lv_entry ([.ref b]) (n := 8) (Nat.le_of_ble_eq_true rfl)
  rw [lg_entry_eq]
  generalize (lg_sl ([.ref b]) ++ List.replicate (8 - (lg_sl ([.ref b])).length) Slot.unset).toArray = ls at hl ⊢
  have hl : lv_has ls 8 [(0, .ref b)] := hl
  refine va_new (ci := 2) (fs := [.null, .null, .null, .null, .int 0]) (C := R_K) (T := T_K) (N := 5) hx hb hts in_K ft_K ft_K_ok hown (hw _ ww_17) (hw _ ww_18) (hw _ ww_1) hK hP hD hS hA rfl (fun j hj => by rcases (show j = 0 ∨ j = 1 ∨ j = 2 ∨ j = 3 ∨ j = 4 by omega) with rfl | rfl | rfl | rfl | rfl <;> rfl) (Nat.le_of_ble_eq_true rfl) (Nat.le_of_ble_eq_true rfl) d_L_law_0 (fun q1 H hP hD hS => ?_)
  have hP : va_P D vwC [(q1, .inr (2, [.null, .null, .null, .null, .int 0]))] H := hP
  have hD : va_D AA [(q1, .inr (2, [.null, .null, .null, .null, .int 0]))] := hD
  refine W.widen (k := 1) (n := 5) (Nat.le_of_ble_eq_true rfl) (Nat.le_of_ble_eq_true rfl) ?_
  refine lv_dup hx hb d_L_law_3 rfl ?_
  have hFc := va_free (wc := [(q1, .inr (2, [.null, .null, .null, .null, .int 0]))]) hD hS hA [0] rfl
  refine va_callv (va_runI (As := []) (rest := [.ref q1]) ⟨hx, hb, hml, hown, hts⟩ (k_K_init l D q1 _) (cwI 0 hts (ga_N ww_21) rfl rfl rfl (hw _ ww_1) (hw _ ww_19) (hw _ ww_20) rfl (by decide +kernel) ⟨Nat.le_of_ble_eq_true rfl, Nat.le_of_ble_eq_true rfl⟩) (pw_preS hP hK hD hN) rfl rfl hl.1 rfl (lv_room (Nat.le_of_ble_eq_true rfl)) d_L_law_4 ⟨Nat.le_of_ble_eq_true rfl, Nat.le_of_ble_eq_true rfl⟩) hS (fun q _ h => hFc q h) hFc (fun u t H1 locs ht hvm hu hB hz1 hk1 hS => ?_)
  obtain rfl : u.1 0 = q1 := hu
  obtain ⟨A0, cc0⟩ := u
  obtain ⟨hP1, hK1, hD1⟩ := hB
  rw [ht] at hP1
  have hK1 := va_K.moved hvm.symm hK1
  have hP : va_P D vwC (wK A0 cc0 zK) H1 := hP1
  have hD : va_D AA (wK A0 cc0 zK) := hD1.weaken (fun _ q _ h => hFc q.1 h)
  have hK : va_K D vwC (kK cc0) s := hK1
  clear hP1 hD1 hK1 hk1 hFc
  generalize H1 = H at hP hS ⊢
  refine W.widen (k := 10) (n := 76) (Nat.le_of_ble_eq_true rfl) (Nat.le_of_ble_eq_true rfl) ?_
  refine lv_astore_n hx hb d_L_law_7 rfl hl (by decide) (lv' := [(1, .ref (A0 0)), (0, .ref b)]) rfl (fun ls hl => ?_)
  refine va_new (ci := 3) (fs := [.int 0, .null, .null, .int 0, .int 0, .null, .null, .null, .null, .int 0, .null, .int 0, .null]) (C := R_M) (T := T_M) (N := 13) hx hb hts in_M ft_M ft_M_ok hown (hw _ ww_527) (hw _ ww_528) (hw _ ww_4) hK hP hD hS hA rfl (fun j hj => by rcases (show j = 0 ∨ j = 1 ∨ j = 2 ∨ j = 3 ∨ j = 4 ∨ j = 5 ∨ j = 6 ∨ j = 7 ∨ j = 8 ∨ j = 9 ∨ j = 10 ∨ j = 11 ∨ j = 12 by omega) with rfl | rfl | rfl | rfl | rfl | rfl | rfl | rfl | rfl | rfl | rfl | rfl | rfl <;> rfl) (Nat.le_of_ble_eq_true rfl) (Nat.le_of_ble_eq_true rfl) d_L_law_8 (fun q1 H hP hD hS => ?_)
  have hP : va_P D vwC (wK A0 cc0 zK ++ [(q1, .inr (3, [.int 0, .null, .null, .int 0, .int 0, .null, .null, .null, .null, .int 0, .null, .int 0, .null]))]) H := hP
  have hD : va_D AA (wK A0 cc0 zK ++ [(q1, .inr (3, [.int 0, .null, .null, .int 0, .int 0, .null, .null, .null, .null, .int 0, .null, .int 0, .null]))]) := hD
  refine W.widen (k := 11) (n := 89) (Nat.le_of_ble_eq_true rfl) (Nat.le_of_ble_eq_true rfl) ?_
  refine lv_dup hx hb d_L_law_11 rfl ?_
  have hPc := hP.sub (ws' := [(q1, .inr (3, [.int 0, .null, .null, .int 0, .int 0, .null, .null, .null, .null, .int 0, .null, .int 0, .null]))]) [10] rfl
  have hDc := hD.sub (ws' := [(q1, .inr (3, [.int 0, .null, .null, .int 0, .int 0, .null, .null, .null, .null, .int 0, .null, .int 0, .null]))]) [10] (by decide) rfl
  have hKc := hK.sub (tys' := []) [] rfl
  have hFc := va_free (wc := [(q1, .inr (3, [.int 0, .null, .null, .int 0, .int 0, .null, .null, .null, .null, .int 0, .null, .int 0, .null]))]) hD hS hA [10] rfl
  refine va_callv (va_runI (As := []) (rest := [.ref q1]) ⟨hx, hb, hml, hown, hts⟩ (k_M_init l D q1 _ gr hgr) (cwI 0 hts (ga_N ww_531) rfl rfl rfl (hw _ ww_4) (hw _ ww_529) (hw _ ww_530) rfl (by decide +kernel) ⟨Nat.le_of_ble_eq_true rfl, Nat.le_of_ble_eq_true rfl⟩) (pw_preS hPc hKc hDc hN) rfl rfl hl.1 rfl (lv_room (Nat.le_of_ble_eq_true rfl)) d_L_law_12 ⟨Nat.le_of_ble_eq_true rfl, Nat.le_of_ble_eq_true rfl⟩) hS (fun q _ h => hFc q h) hFc (fun u t H1 locs ht hvm hu hB hz1 hk1 hS => ?_)
  obtain rfl : u.1 0 = q1 := hu
  obtain ⟨B0, dd0⟩ := u
  obtain ⟨hP1, hK1, hD1⟩ := hB
  rw [ht] at hP1
  have hK1 := va_K.moved hvm.symm hK1
  obtain ⟨hP, hD⟩ := va_join (wr := wK A0 cc0 zK) (w1 := wM B0 dd0 gr) hP hD [10] [0, 1, 2, 3, 4, 5, 6, 7, 8, 9] rfl rfl (by decide) (by decide) hk1 hFc hP1 hD1
  have hK := hK.app hK1
  generalize H1 = H at hP hS ⊢
  have hP : va_P D vwC (wK A0 cc0 zK ++ wM B0 dd0 gr) H := hP
  have hD : va_D AA (wK A0 cc0 zK ++ wM B0 dd0 gr) := hD
  have hK : va_K D vwC (kK cc0 ++ kM dd0) s := hK
  refine W.widen (k := 19) (n := 169) (Nat.le_of_ble_eq_true rfl) (Nat.le_of_ble_eq_true rfl) ?_
  refine lv_astore_n hx hb d_L_law_15 rfl hl (by decide) (lv' := [(2, .ref (B0 0)), (1, .ref (A0 0)), (0, .ref b)]) rfl (fun ls hl => ?_)
  refine lv_iconst (v := 1) hx hb d_L_law_16 (by decide) ?_
  refine va_newa (atype := .long) (ty := .long) (a0 := (1, .inr (.inl (fun _ => 0)))) (N' := 1) hx hb (hw _ ww_47) rfl hK hP hD hS hA (fun _ => rfl) (by decide) (by decide) (by decide) (Nat.le_of_ble_eq_true rfl) (Nat.le_of_ble_eq_true rfl) d_L_law_17 (fun q2 c2 H hK hP hD hS => ?_)
  have hP : va_P D vwC ((wK A0 cc0 zK ++ wM B0 dd0 gr) ++ [(q2, .inl (c2, 1, .inr (.inl (fun _ => 0))))]) H := hP
  have hD : va_D AA ((wK A0 cc0 zK ++ wM B0 dd0 gr) ++ [(q2, .inl (c2, 1, .inr (.inl (fun _ => 0))))]) := hD
  have hK : va_K D vwC ((kK cc0 ++ kM dd0) ++ [(c2, .long)]) s := hK
  refine W.widen (k := 20) (n := 170) (Nat.le_of_ble_eq_true rfl) (Nat.le_of_ble_eq_true rfl) ?_
  refine lv_astore_n hx hb d_L_law_19 rfl hl (by decide) (lv' := [(3, .ref q2), (2, .ref (B0 0)), (1, .ref (A0 0)), (0, .ref b)]) rfl (fun ls hl => ?_)
  refine lv_iconst (v := 0) hx hb d_L_law_20 (by decide) ?_
  refine lv_istore hx hb d_L_law_21 hl (by decide) (lv' := [(4, .int 0), (3, .ref q2), (2, .ref (B0 0)), (1, .ref (A0 0)), (0, .ref b)]) rfl (fun ls hl => ?_)
  have hP := hP.sub (ws' := wL (fun k => if k = 10 then q2 else A0 k) (fun k => if k = 10 then c2 else cc0 k) B0 dd0 zK (fun _ => 0) gr) [0, 1, 2, 3, 4, 5, 6, 7, 8, 9, 19, 10, 11, 12, 13, 14, 15, 16, 17, 18] rfl
  have hD := hD.sub (ws' := wL (fun k => if k = 10 then q2 else A0 k) (fun k => if k = 10 then c2 else cc0 k) B0 dd0 zK (fun _ => 0) gr) [0, 1, 2, 3, 4, 5, 6, 7, 8, 9, 19, 10, 11, 12, 13, 14, 15, 16, 17, 18] (by decide) rfl
  have hK := hK.sub (tys' := kL (fun k => if k = 10 then c2 else cc0 k) dd0) [0, 1, 2, 3, 4, 5, 6, 15, 7, 8, 9, 10, 11, 12, 13, 14] rfl
  exact lw_loop (A := fun k => if k = 10 then q2 else A0 k) (cc := fun k => if k = 10 then c2 else cc0 k) (B := B0) (dd := dd0) hr hlen hAs ⟨hx, hb, hml, hown, hts, hXs, hbl, hbA, hA, hN, hX, hC, hZ, hK, hlocks, hl0, by omega⟩ hAG 512 0 (by omega) (by omega) zK (fun _ => 0) gr H locs ls hI0 hP hD hS (lv_sub hl [4, 3, 2, 1, 0] rfl)
