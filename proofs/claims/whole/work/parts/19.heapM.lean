def f_M_thrown (g0 : sM)  : Option (Int32 × sM) := some (g0.1, g0)
abbrev rm_M_thrown : Room := { frames := 0, cells := 0, slots := 0, locals := 0 }
set_option maxHeartbeats 4000000 in
set_option maxRecDepth 100000 in
theorem k_M_thrown (l : Launch) (D : va_G) (A : Nat → Nat) (cc : Nat → ClassId) (g0 : sM)  (sz : Nat) (res : (Int32 × sM)) (hF : f_M_thrown g0  = some res) : Met l y_M_thrown (Cond.code y_M_thrown b_M_thrown 1 (some .int) :: wa) rm_M_thrown (pw D (wM A cc g0) (kM cc) [.ref (A 0)] sz) (va_Qi (fun r u => (r, u) = res) (bw D (wM A cc) (kM cc) (va_A (wM A cc g0) sz)) (va_A (wM A cc g0) sz)) 0 0 (va_A (wM A cc g0) sz) := by
  refine Met.ofW (cc := b_M_thrown) (maxL := 1) (ret := (some .int)) (by decide) rfl ?_
  intro p e s m args below meth c s₁ B hml hv
  obtain ⟨rfl, hsz, hP, hK, hD0, hN⟩ := hv
  have hx := B.exec
  have hb := B.bytes
  have hr := B.returns
  have hts := atoms_spec (ws := Cond.code y_M_thrown b_M_thrown 1 (some .int) :: wa) B.pre
  have hw : ∀ w ∈ wa, w.before _ s = true := fun w h => hts w (List.mem_cons_of_mem _ h)
  have hown : s.vm.findClass R_M = some m.cls := findClass_of_methodNamed B.named
  have hlocks := B.notSynchronized
  subst hsz
  have hD := hD0.self (sz := s.heap.size)
  generalize hAe : va_A (wM A cc g0) s.heap.size = AA at hD ⊢
  have hA : ∀ q : Nat, s.heap.size ≤ q → AA q := fun q h => by rw [← hAe]; exact Or.inr h
  have hS : va_S AA s.heap s.heap [] := va_S.rf
  have hl := lv_entry ([.ref (A 0)]) (n := 1) (Nat.le_of_ble_eq_true rfl)
  rw [lg_entry_eq]
  generalize (lg_sl ([.ref (A 0)]) ++ List.replicate (1 - (lg_sl ([.ref (A 0)])).length) Slot.unset).toArray = ls at hl ⊢
  have hl : lv_has ls 1 [(0, .ref (A 0))] := hl
  unfold f_M_thrown at hF
  refine lv_aload_n hx hb d_M_thrown_0 rfl (lv_at hl 0 rfl) ?_
  refine va_get (D := D) (ci := 3) (v := .int g0.1) (C := R_M) (T := T_M) (N := 13) hx hb hts in_M hown hK hP 0 rfl rfl 0 (by decide) (hw _ ww_534) (fun _ h9 => h9) rfl d_M_thrown_1 ?_
  obtain rfl := Option.some.inj hF
  exact W.iret hx hb hr (fun t ht hW => ⟨⟨_, _, rfl, rfl, bw_end hP hK hD ht hW⟩, hS.F ht⟩) hS.2.2 d_M_thrown_4
def f_M_full (g0 : sM) (a0 : Int32) : Option (Int32 × sM) := if a0 < 0 ∨ 6 ≤ Int32.toNatClampNeg a0 then none else (Option.bind (if (lg_cmp (g0.2.1 (Int32.toNatClampNeg a0)) (-1)) = 0 then (some (0) : Option (Int32)) else (some (1))) (fun j2 => if j2 = 0 ∨ j2 = 1 then some (j2, g0) else none))
abbrev rm_M_full : Room := { frames := 0, cells := 0, slots := 0, locals := 0 }
set_option maxHeartbeats 4000000 in
set_option maxRecDepth 100000 in
theorem k_M_full (l : Launch) (D : va_G) (A : Nat → Nat) (cc : Nat → ClassId) (g0 : sM) (a0 : Int32) (sz : Nat) (res : (Int32 × sM)) (hF : f_M_full g0 a0 = some res) : Met l y_M_full (Cond.code y_M_full b_M_full 2 (some .boolean) :: wa) rm_M_full (pw D (wM A cc g0) (kM cc) [.ref (A 0), .int a0] sz) (va_Qi (fun r u => (r, u) = res) (bw D (wM A cc) (kM cc) (va_A (wM A cc g0) sz)) (va_A (wM A cc g0) sz)) 0 0 (va_A (wM A cc g0) sz) := by
  refine Met.ofW (cc := b_M_full) (maxL := 2) (ret := (some .boolean)) (by decide) rfl ?_
  intro p e s m args below meth c s₁ B hml hv
  obtain ⟨rfl, hsz, hP, hK, hD0, hN⟩ := hv
  have hx := B.exec
  have hb := B.bytes
  have hr := B.returns
  have hts := atoms_spec (ws := Cond.code y_M_full b_M_full 2 (some .boolean) :: wa) B.pre
  have hw : ∀ w ∈ wa, w.before _ s = true := fun w h => hts w (List.mem_cons_of_mem _ h)
  have hown : s.vm.findClass R_M = some m.cls := findClass_of_methodNamed B.named
  have hlocks := B.notSynchronized
  subst hsz
  have hD := hD0.self (sz := s.heap.size)
  generalize hAe : va_A (wM A cc g0) s.heap.size = AA at hD ⊢
  have hA : ∀ q : Nat, s.heap.size ≤ q → AA q := fun q h => by rw [← hAe]; exact Or.inr h
  have hS : va_S AA s.heap s.heap [] := va_S.rf
  have hl := lv_entry ([.ref (A 0), .int a0]) (n := 2) (Nat.le_of_ble_eq_true rfl)
  rw [lg_entry_eq]
  generalize (lg_sl ([.ref (A 0), .int a0]) ++ List.replicate (2 - (lg_sl ([.ref (A 0), .int a0])).length) Slot.unset).toArray = ls at hl ⊢
  have hl : lv_has ls 2 [(0, .ref (A 0)), (1, .int a0)] := hl
  unfold f_M_full at hF
  refine lv_aload_n hx hb d_M_full_0 rfl (lv_at hl 0 rfl) ?_
  refine va_get (D := D) (ci := 3) (v := .ref (A 1)) (C := R_M) (T := T_M) (N := 13) hx hb hts in_M hown hK hP 0 rfl rfl 1 (by decide) (hw _ ww_535) (fun _ h9 => h9) rfl d_M_full_1 ?_
  refine lv_iload_n hx hb d_M_full_4 rfl (lv_at hl 1 rfl) ?_
  by_cases h1 : a0 < 0 ∨ 6 ≤ Int32.toNatClampNeg a0
  · have h0 := (if_pos h1).symm.trans hF; cases h0
  have hF := (if_neg h1).symm.trans hF
  refine va_lald hx hb hK hP 1 0 rfl rfl h1 d_M_full_5 ?_
  refine lv_ldc2 (v := (-1)) hx hb hown (hw _ ww_533) d_M_full_6 ?_
  refine W.lcmp hx hb d_M_full_9 ?_
  obtain ⟨j2, q4, hF⟩ := Option.bind_eq_some_iff.mp hF
  have k3 : ∀ (H : Heap) (locs : List Loc) (ls : Array Slot), va_P D vwC (wM A cc g0) H → va_D AA (wM A cc g0) → va_S AA s.heap H locs → lv_has ls 2 [] → W p l e rm_M_full s m ([Value.ref (A 0), Value.int a0] : List Value).toArray below meth c H locs 0 0 (MQ below (va_Qi (fun r u => (r, u) = res) (bw D (wM A cc) (kM cc) AA) AA) ([Value.ref (A 0), Value.int a0] : List Value).toArray s 0 0 AA) (F0 m 18 ls [.int j2]) := by
    intro H locs ls hP hD hS hl
    by_cases h6 : ¬ (j2 = 0 ∨ j2 = 1)
    · have h0 := (if_neg h6).symm.trans hF; cases h0
    have h6 := Classical.not_not.mp h6
    have hF := (if_pos h6).symm.trans hF
    obtain rfl := Option.some.inj hF
    exact W.zret hx hb hr (nz_b h6) (fun t ht hW => ⟨⟨_, _, rfl, rfl, bw_end hP hK hD ht hW⟩, hS.F ht⟩) hS.2.2 d_M_full_18
  clear hF
  have hF := q4
  refine lv_if_eq hx hb d_M_full_10 (tgt := 17) (by decide) (fun h9 => ?_) (fun h9 => ?_)
  · have hF := (if_pos h9).symm.trans hF
    refine lv_iconst (v := 0) hx hb d_M_full_17 (by decide) ?_
    obtain rfl := Option.some.inj hF
    exact k3 _ _ ls hP hD hS (lv_sub hl [] rfl)
  · have hF := (if_neg h9).symm.trans hF
    refine lv_iconst (v := 1) hx hb d_M_full_13 (by decide) ?_
    refine lv_goto hx hb d_M_full_14 (tgt := 18) (by decide) ?_
    obtain rfl := Option.some.inj hF
    exact k3 _ _ ls hP hD hS (lv_sub hl [] rfl)
def f_M_lay (g0 : sM) (a0 : Int32) (a1 : Int64) : Option sM := if a0 < 0 ∨ 6 ≤ Int32.toNatClampNeg a0 then none else (if a0 < 0 ∨ 6 ≤ Int32.toNatClampNeg a0 then none else (some ((g0.1, (vp_updL g0.2.1 (Int32.toNatClampNeg a0) a1), (vp_updL g0.2.2.1 (Int32.toNatClampNeg a0) 0), g0.2.2.2.1, g0.2.2.2.2.1, g0.2.2.2.2.2.1, g0.2.2.2.2.2.2.1, g0.2.2.2.2.2.2.2.1, g0.2.2.2.2.2.2.2.2.1, g0.2.2.2.2.2.2.2.2.2.1, g0.2.2.2.2.2.2.2.2.2.2.1, g0.2.2.2.2.2.2.2.2.2.2.2.1, g0.2.2.2.2.2.2.2.2.2.2.2.2))))
abbrev rm_M_lay : Room := { frames := 0, cells := 0, slots := 0, locals := 0 }
set_option maxHeartbeats 4000000 in
set_option maxRecDepth 100000 in
theorem k_M_lay (l : Launch) (D : va_G) (A : Nat → Nat) (cc : Nat → ClassId) (g0 : sM) (a0 : Int32) (a1 : Int64) (sz : Nat) (res : sM) (hF : f_M_lay g0 a0 a1 = some res) : Met l y_M_lay (Cond.code y_M_lay b_M_lay 4 none :: wa) rm_M_lay (pw D (wM A cc g0) (kM cc) [.ref (A 0), .int a0, .long a1] sz) (va_Qv (fun u => u = res) (bw D (wM A cc) (kM cc) (va_A (wM A cc g0) sz)) (va_A (wM A cc g0) sz)) 0 0 (va_A (wM A cc g0) sz) := by
  refine Met.ofW (cc := b_M_lay) (maxL := 4) (ret := none) (by decide) rfl ?_
  intro p e s m args below meth c s₁ B hml hv
  obtain ⟨rfl, hsz, hP, hK, hD0, hN⟩ := hv
  have hx := B.exec
  have hb := B.bytes
  have hr := B.returns
  have hts := atoms_spec (ws := Cond.code y_M_lay b_M_lay 4 none :: wa) B.pre
  have hw : ∀ w ∈ wa, w.before _ s = true := fun w h => hts w (List.mem_cons_of_mem _ h)
  have hown : s.vm.findClass R_M = some m.cls := findClass_of_methodNamed B.named
  have hlocks := B.notSynchronized
  subst hsz
  have hD := hD0.self (sz := s.heap.size)
  generalize hAe : va_A (wM A cc g0) s.heap.size = AA at hD ⊢
  have hA : ∀ q : Nat, s.heap.size ≤ q → AA q := fun q h => by rw [← hAe]; exact Or.inr h
  have hS : va_S AA s.heap s.heap [] := va_S.rf
  have hl := lv_entry ([.ref (A 0), .int a0, .long a1]) (n := 4) (Nat.le_of_ble_eq_true rfl)
  rw [lg_entry_eq]
  generalize (lg_sl ([.ref (A 0), .int a0, .long a1]) ++ List.replicate (4 - (lg_sl ([.ref (A 0), .int a0, .long a1])).length) Slot.unset).toArray = ls at hl ⊢
  have hl : lv_has ls 4 [(0, .ref (A 0)), (1, .int a0), (2, .long a1)] := hl
  unfold f_M_lay at hF
  refine lv_aload_n hx hb d_M_lay_0 rfl (lv_at hl 0 rfl) ?_
  refine va_get (D := D) (ci := 3) (v := .ref (A 1)) (C := R_M) (T := T_M) (N := 13) hx hb hts in_M hown hK hP 0 rfl rfl 1 (by decide) (hw _ ww_535) (fun _ h9 => h9) rfl d_M_lay_1 ?_
  refine lv_iload_n hx hb d_M_lay_4 rfl (lv_at hl 1 rfl) ?_
  refine lv_lload_n hx hb d_M_lay_5 rfl (lv_at hl 2 rfl) ?_
  by_cases h1 : a0 < 0 ∨ 6 ≤ Int32.toNatClampNeg a0
  · have h0 := (if_pos h1).symm.trans hF; cases h0
  have hF := (if_neg h1).symm.trans hF
  refine va_last hx hb hK hP hD hS 1 0 rfl rfl h1 d_M_lay_6 (fun H locs hP hD hS => ?_)
  have hP : va_P D vwC (wM A cc (g0.1, (vp_updL g0.2.1 (Int32.toNatClampNeg a0) a1), g0.2.2.1, g0.2.2.2.1, g0.2.2.2.2.1, g0.2.2.2.2.2.1, g0.2.2.2.2.2.2.1, g0.2.2.2.2.2.2.2.1, g0.2.2.2.2.2.2.2.2.1, g0.2.2.2.2.2.2.2.2.2.1, g0.2.2.2.2.2.2.2.2.2.2.1, g0.2.2.2.2.2.2.2.2.2.2.2.1, g0.2.2.2.2.2.2.2.2.2.2.2.2)) H := hP
  have hD : va_D AA (wM A cc (g0.1, (vp_updL g0.2.1 (Int32.toNatClampNeg a0) a1), g0.2.2.1, g0.2.2.2.1, g0.2.2.2.2.1, g0.2.2.2.2.2.1, g0.2.2.2.2.2.2.1, g0.2.2.2.2.2.2.2.1, g0.2.2.2.2.2.2.2.2.1, g0.2.2.2.2.2.2.2.2.2.1, g0.2.2.2.2.2.2.2.2.2.2.1, g0.2.2.2.2.2.2.2.2.2.2.2.1, g0.2.2.2.2.2.2.2.2.2.2.2.2)) := hD
  refine lv_aload_n hx hb d_M_lay_7 rfl (lv_at hl 0 rfl) ?_
  refine va_get (D := D) (ci := 3) (v := .ref (A 2)) (C := R_M) (T := T_M) (N := 13) hx hb hts in_M hown hK hP 0 rfl rfl 2 (by decide) (hw _ ww_536) (fun _ h9 => h9) rfl d_M_lay_8 ?_
  refine lv_iload_n hx hb d_M_lay_11 rfl (lv_at hl 1 rfl) ?_
  refine lv_lconst (v := 0) hx hb d_M_lay_12 (by decide) ?_
  by_cases h2 : a0 < 0 ∨ 6 ≤ Int32.toNatClampNeg a0
  · have h0 := (if_pos h2).symm.trans hF; cases h0
  have hF := (if_neg h2).symm.trans hF
  refine va_last hx hb hK hP hD hS 2 1 rfl rfl h2 d_M_lay_13 (fun H locs hP hD hS => ?_)
  have hP : va_P D vwC (wM A cc (g0.1, (vp_updL g0.2.1 (Int32.toNatClampNeg a0) a1), (vp_updL g0.2.2.1 (Int32.toNatClampNeg a0) 0), g0.2.2.2.1, g0.2.2.2.2.1, g0.2.2.2.2.2.1, g0.2.2.2.2.2.2.1, g0.2.2.2.2.2.2.2.1, g0.2.2.2.2.2.2.2.2.1, g0.2.2.2.2.2.2.2.2.2.1, g0.2.2.2.2.2.2.2.2.2.2.1, g0.2.2.2.2.2.2.2.2.2.2.2.1, g0.2.2.2.2.2.2.2.2.2.2.2.2)) H := hP
  have hD : va_D AA (wM A cc (g0.1, (vp_updL g0.2.1 (Int32.toNatClampNeg a0) a1), (vp_updL g0.2.2.1 (Int32.toNatClampNeg a0) 0), g0.2.2.2.1, g0.2.2.2.2.1, g0.2.2.2.2.2.1, g0.2.2.2.2.2.2.1, g0.2.2.2.2.2.2.2.1, g0.2.2.2.2.2.2.2.2.1, g0.2.2.2.2.2.2.2.2.2.1, g0.2.2.2.2.2.2.2.2.2.2.1, g0.2.2.2.2.2.2.2.2.2.2.2.1, g0.2.2.2.2.2.2.2.2.2.2.2.2)) := hD
  obtain rfl := Option.some.inj hF
  exact W.vret hx hb hr (fun t ht hW => ⟨⟨_, rfl, rfl, bw_end hP hK hD ht hW⟩, hS.F ht⟩) hS.2.2 d_M_lay_14
def f_M_noSecret (g0 : sM) (a0 : Int32) : Option (Int32 × sM) := Option.bind (f_M_isSlot a0) (fun r1 => Option.bind (if r1 = 0 then (some (1) : Option (Int32)) else (if a0 < 0 ∨ 6 ≤ Int32.toNatClampNeg a0 then none else (if (lg_cmp (g0.2.2.1 (Int32.toNatClampNeg a0)) 0) = 0 then (some (2)) else (some (0))))) (fun j2 => some (j2, g0)))
abbrev rm_M_noSecret : Room := { frames := 1, cells := 0, slots := 0, locals := 20 }
set_option maxHeartbeats 4000000 in
set_option maxRecDepth 100000 in
theorem k_M_noSecret (l : Launch) (D : va_G) (A : Nat → Nat) (cc : Nat → ClassId) (g0 : sM) (a0 : Int32) (sz : Nat) (res : (Int32 × sM)) (hF : f_M_noSecret g0 a0 = some res) : Met l y_M_noSecret (Cond.code y_M_noSecret b_M_noSecret 2 (some .int) :: wa) rm_M_noSecret (pw D (wM A cc g0) (kM cc) [.ref (A 0), .int a0] sz) (va_Qi (fun r u => (r, u) = res) (bw D (wM A cc) (kM cc) (va_A (wM A cc g0) sz)) (va_A (wM A cc g0) sz)) 0 0 (va_A (wM A cc g0) sz) := by
  refine Met.ofW (cc := b_M_noSecret) (maxL := 2) (ret := (some .int)) (by decide) rfl ?_
  intro p e s m args below meth c s₁ B hml hv
  obtain ⟨rfl, hsz, hP, hK, hD0, hN⟩ := hv
  have hx := B.exec
  have hb := B.bytes
  have hr := B.returns
  have hts := atoms_spec (ws := Cond.code y_M_noSecret b_M_noSecret 2 (some .int) :: wa) B.pre
  have hw : ∀ w ∈ wa, w.before _ s = true := fun w h => hts w (List.mem_cons_of_mem _ h)
  have hown : s.vm.findClass R_M = some m.cls := findClass_of_methodNamed B.named
  have hlocks := B.notSynchronized
  subst hsz
  have hD := hD0.self (sz := s.heap.size)
  generalize hAe : va_A (wM A cc g0) s.heap.size = AA at hD ⊢
  have hA : ∀ q : Nat, s.heap.size ≤ q → AA q := fun q h => by rw [← hAe]; exact Or.inr h
  have hS : va_S AA s.heap s.heap [] := va_S.rf
  have hl := lv_entry ([.ref (A 0), .int a0]) (n := 2) (Nat.le_of_ble_eq_true rfl)
  rw [lg_entry_eq]
  generalize (lg_sl ([.ref (A 0), .int a0]) ++ List.replicate (2 - (lg_sl ([.ref (A 0), .int a0])).length) Slot.unset).toArray = ls at hl ⊢
  have hl : lv_has ls 2 [(0, .ref (A 0)), (1, .int a0)] := hl
  unfold f_M_noSecret at hF
  refine lv_iload_n hx hb d_M_noSecret_0 rfl (lv_at hl 1 rfl) ?_
  obtain ⟨r1, e_r1, hF⟩ := Option.bind_eq_some_iff.mp hF
  refine vp_callSi (va_runS (As := [.int a0]) (rest := []) ⟨hx, hb, hml, hown, hts⟩ (k_M_isSlot l a0 r1 e_r1) (va_cwS 1 hts (ga_S ww_582 ww_583 ww_4 ww_584) rfl rfl rfl (by decide +kernel) ⟨by decide, by decide⟩) (pcs_pre hN) rfl rfl hl.1 rfl (lv_room (Nat.le_of_ble_eq_true rfl)) d_M_noSecret_1 ⟨Nat.zero_le _, Nat.zero_le _⟩).run (fun z9 hz9 => ?_)
  obtain rfl : r1 = z9 := hz9.symm
  obtain ⟨j2, q4, hF⟩ := Option.bind_eq_some_iff.mp hF
  have k3 : ∀ (H : Heap) (locs : List Loc) (ls : Array Slot), va_P D vwC (wM A cc g0) H → va_D AA (wM A cc g0) → va_S AA s.heap H locs → lv_has ls 2 [] → W p l e rm_M_noSecret s m ([Value.ref (A 0), Value.int a0] : List Value).toArray below meth c H locs 0 0 (MQ below (va_Qi (fun r u => (r, u) = res) (bw D (wM A cc) (kM cc) AA) AA) ([Value.ref (A 0), Value.int a0] : List Value).toArray s 0 0 AA) (F0 m 27 ls [.int j2]) := by
    intro H locs ls hP hD hS hl
    obtain rfl := Option.some.inj hF
    exact W.iret hx hb hr (fun t ht hW => ⟨⟨_, _, rfl, rfl, bw_end hP hK hD ht hW⟩, hS.F ht⟩) hS.2.2 d_M_noSecret_27
  clear hF
  have hF := q4
  refine lv_if_ne hx hb d_M_noSecret_4 (tgt := 11) (by decide) (fun h9 => ?_) (fun h9 => ?_)
  · have hF := (if_neg h9).symm.trans hF
    refine lv_aload_n hx hb d_M_noSecret_11 rfl (lv_at hl 0 rfl) ?_
    refine va_get (D := D) (ci := 3) (v := .ref (A 2)) (C := R_M) (T := T_M) (N := 13) hx hb hts in_M hown hK hP 0 rfl rfl 2 (by decide) (hw _ ww_536) (fun _ h9 => h9) rfl d_M_noSecret_12 ?_
    refine lv_iload_n hx hb d_M_noSecret_15 rfl (lv_at hl 1 rfl) ?_
    by_cases h6 : a0 < 0 ∨ 6 ≤ Int32.toNatClampNeg a0
    · have h0 := (if_pos h6).symm.trans hF; cases h0
    have hF := (if_neg h6).symm.trans hF
    refine va_lald hx hb hK hP 2 1 rfl rfl h6 d_M_noSecret_16 ?_
    refine lv_lconst (v := 0) hx hb d_M_noSecret_17 (by decide) ?_
    refine W.lcmp hx hb d_M_noSecret_18 ?_
    refine lv_if_ne hx hb d_M_noSecret_19 (tgt := 26) (by decide) (fun h9 => ?_) (fun h9 => ?_)
    · have hF := (if_neg h9).symm.trans hF
      refine lv_iconst (v := 0) hx hb d_M_noSecret_26 (by decide) ?_
      obtain rfl := Option.some.inj hF
      exact k3 _ _ ls hP hD hS (lv_sub hl [] rfl)
    · have hF := (if_pos h9).symm.trans hF
      refine lv_iconst (v := 2) hx hb d_M_noSecret_22 (by decide) ?_
      refine lv_goto hx hb d_M_noSecret_23 (tgt := 27) (by decide) ?_
      obtain rfl := Option.some.inj hF
      exact k3 _ _ ls hP hD hS (lv_sub hl [] rfl)
  · have hF := (if_pos h9).symm.trans hF
    refine lv_iconst (v := 1) hx hb d_M_noSecret_7 (by decide) ?_
    refine lv_goto hx hb d_M_noSecret_8 (tgt := 27) (by decide) ?_
    obtain rfl := Option.some.inj hF
    exact k3 _ _ ls hP hD hS (lv_sub hl [] rfl)
def f_M_noPoint (g0 : sM) (a0 : Int32) : Option (Int32 × sM) := Option.bind (f_M_isSlot a0) (fun r1 => Option.bind (if r1 = 0 then (some (1, g0) : Option (Int32 × sM)) else (Option.bind (f_M_full g0 a0) (fun t9 => match t9 with | (r8, g7) => (if r8 = 0 then (some (2, g7)) else (some (0, g7)))))) (fun t6 => match t6 with | (j2, j3) => (some (j2, j3))))
abbrev rm_M_noPoint : Room := { frames := 1, cells := 0, slots := 0, locals := 21 }
set_option maxHeartbeats 4000000 in
set_option maxRecDepth 100000 in
theorem k_M_noPoint (l : Launch) (D : va_G) (A : Nat → Nat) (cc : Nat → ClassId) (g0 : sM) (a0 : Int32) (sz : Nat) (res : (Int32 × sM)) (hF : f_M_noPoint g0 a0 = some res) : Met l y_M_noPoint (Cond.code y_M_noPoint b_M_noPoint 2 (some .int) :: wa) rm_M_noPoint (pw D (wM A cc g0) (kM cc) [.ref (A 0), .int a0] sz) (va_Qi (fun r u => (r, u) = res) (bw D (wM A cc) (kM cc) (va_A (wM A cc g0) sz)) (va_A (wM A cc g0) sz)) 0 0 (va_A (wM A cc g0) sz) := by
  refine Met.ofW (cc := b_M_noPoint) (maxL := 2) (ret := (some .int)) (by decide) rfl ?_
  intro p e s m args below meth c s₁ B hml hv
  obtain ⟨rfl, hsz, hP, hK, hD0, hN⟩ := hv
  have hx := B.exec
  have hb := B.bytes
  have hr := B.returns
  have hts := atoms_spec (ws := Cond.code y_M_noPoint b_M_noPoint 2 (some .int) :: wa) B.pre
  have hw : ∀ w ∈ wa, w.before _ s = true := fun w h => hts w (List.mem_cons_of_mem _ h)
  have hown : s.vm.findClass R_M = some m.cls := findClass_of_methodNamed B.named
  have hlocks := B.notSynchronized
  subst hsz
  have hD := hD0.self (sz := s.heap.size)
  generalize hAe : va_A (wM A cc g0) s.heap.size = AA at hD ⊢
  have hA : ∀ q : Nat, s.heap.size ≤ q → AA q := fun q h => by rw [← hAe]; exact Or.inr h
  have hS : va_S AA s.heap s.heap [] := va_S.rf
  have hl := lv_entry ([.ref (A 0), .int a0]) (n := 2) (Nat.le_of_ble_eq_true rfl)
  rw [lg_entry_eq]
  generalize (lg_sl ([.ref (A 0), .int a0]) ++ List.replicate (2 - (lg_sl ([.ref (A 0), .int a0])).length) Slot.unset).toArray = ls at hl ⊢
  have hl : lv_has ls 2 [(0, .ref (A 0)), (1, .int a0)] := hl
  unfold f_M_noPoint at hF
  refine lv_iload_n hx hb d_M_noPoint_0 rfl (lv_at hl 1 rfl) ?_
  obtain ⟨r1, e_r1, hF⟩ := Option.bind_eq_some_iff.mp hF
  refine vp_callSi (va_runS (As := [.int a0]) (rest := []) ⟨hx, hb, hml, hown, hts⟩ (k_M_isSlot l a0 r1 e_r1) (va_cwS 1 hts (ga_S ww_582 ww_583 ww_4 ww_584) rfl rfl rfl (by decide +kernel) ⟨by decide, by decide⟩) (pcs_pre hN) rfl rfl hl.1 rfl (lv_room (Nat.le_of_ble_eq_true rfl)) d_M_noPoint_1 ⟨Nat.zero_le _, Nat.zero_le _⟩).run (fun z9 hz9 => ?_)
  obtain rfl : r1 = z9 := hz9.symm
  obtain ⟨⟨j2, j3⟩, q5, hF⟩ := Option.bind_eq_some_iff.mp hF
  have k4 : ∀ (H : Heap) (locs : List Loc) (ls : Array Slot), va_P D vwC (wM A cc j3) H → va_D AA (wM A cc j3) → va_S AA s.heap H locs → lv_has ls 2 [] → W p l e rm_M_noPoint s m ([Value.ref (A 0), Value.int a0] : List Value).toArray below meth c H locs 0 0 (MQ below (va_Qi (fun r u => (r, u) = res) (bw D (wM A cc) (kM cc) AA) AA) ([Value.ref (A 0), Value.int a0] : List Value).toArray s 0 0 AA) (F0 m 24 ls [.int j2]) := by
    intro H locs ls hP hD hS hl
    obtain rfl := Option.some.inj hF
    exact W.iret hx hb hr (fun t ht hW => ⟨⟨_, _, rfl, rfl, bw_end hP hK hD ht hW⟩, hS.F ht⟩) hS.2.2 d_M_noPoint_24
  clear hF
  have hF := q5
  refine lv_if_ne hx hb d_M_noPoint_4 (tgt := 11) (by decide) (fun h9 => ?_) (fun h9 => ?_)
  · have hF := (if_neg h9).symm.trans hF
    refine lv_aload_n hx hb d_M_noPoint_11 rfl (lv_at hl 0 rfl) ?_
    refine lv_iload_n hx hb d_M_noPoint_12 rfl (lv_at hl 1 rfl) ?_
    obtain ⟨⟨r8, g7⟩, e_g7, hF⟩ := Option.bind_eq_some_iff.mp hF
    have hFc := va_free (wc := wM A cc g0) hD hS hA [0, 1, 2, 3, 4, 5, 6, 7, 8] rfl
    refine va_calli (va_runV (As := [.int a0]) (rest := []) ⟨hx, hb, hml, hown, hts⟩ (k_M_full l D A cc g0 a0 _ (r8, g7) e_g7) (cwV 1 hts (ga_V ww_647 ww_649 wp_8 ww_4 ww_650) rfl rfl rfl (by decide +kernel) ⟨by decide, by decide⟩) (pw_pre (q0 := 0) (ci := 3) hP hK hD hN rfl rfl) rfl rfl hl.1 rfl (lv_room (Nat.le_of_ble_eq_true rfl)) d_M_noPoint_13 ⟨Nat.zero_le _, Nat.zero_le _⟩) hS (fun q _ h => hFc q h) hFc (fun r9 u9 t H locs ht hvm hp hB hz1 hk1 hS => ?_)
    obtain ⟨rfl, rfl⟩ := Prod.mk.inj hp.symm
    obtain ⟨hP, hD⟩ := bw_back hB ht hFc
    refine lv_if_ne hx hb d_M_noPoint_16 (tgt := 23) (by decide) (fun h9 => ?_) (fun h9 => ?_)
    · have hF := (if_neg h9).symm.trans hF
      refine lv_iconst (v := 0) hx hb d_M_noPoint_23 (by decide) ?_
      cases Option.some.inj hF
      exact k4 _ _ ls hP hD hS (lv_sub hl [] rfl)
    · have hF := (if_pos h9).symm.trans hF
      refine lv_iconst (v := 2) hx hb d_M_noPoint_19 (by decide) ?_
      refine lv_goto hx hb d_M_noPoint_20 (tgt := 24) (by decide) ?_
      cases Option.some.inj hF
      exact k4 _ _ ls hP hD hS (lv_sub hl [] rfl)
  · have hF := (if_pos h9).symm.trans hF
    refine lv_iconst (v := 1) hx hb d_M_noPoint_7 (by decide) ?_
    refine lv_goto hx hb d_M_noPoint_8 (tgt := 24) (by decide) ?_
    cases Option.some.inj hF
    exact k4 _ _ ls hP hD hS (lv_sub hl [] rfl)
def f_M_secret (g0 : sM) (a0 : Int32) (a1 : Int32) : Option (Int64 × sM) := Option.bind (f_M_isSlot a0) (fun r1 => Option.bind (if r1 = 0 then (some (1) : Option (Int32)) else (if a1 < 1 then (some (2)) else (if (lg_cmp (Int32.toInt64 a1) 1073729077) < 0 then (some (0)) else (some (2))))) (fun j2 => if j2 = 0 then (if a0 < 0 ∨ 6 ≤ Int32.toNatClampNeg a0 then none else (Option.bind (f_M_g ) (fun r7 => Option.bind (f_M_times (Int32.toInt64 a1) r7) (fun r8 => if a0 < 0 ∨ 6 ≤ Int32.toNatClampNeg a0 then none else (if a0 < 0 ∨ 6 ≤ Int32.toNatClampNeg a0 then none else (Option.bind (f_M_codeOf ((vp_updL g0.2.1 (Int32.toNatClampNeg a0) r8) (Int32.toNatClampNeg a0))) (fun r11 => some (r11, (j2, (vp_updL g0.2.1 (Int32.toNatClampNeg a0) r8), (vp_updL g0.2.2.1 (Int32.toNatClampNeg a0) (Int32.toInt64 a1)), g0.2.2.2.1, g0.2.2.2.2.1, g0.2.2.2.2.2.1, g0.2.2.2.2.2.2.1, g0.2.2.2.2.2.2.2.1, g0.2.2.2.2.2.2.2.2.1, g0.2.2.2.2.2.2.2.2.2.1, g0.2.2.2.2.2.2.2.2.2.2.1, g0.2.2.2.2.2.2.2.2.2.2.2.1, g0.2.2.2.2.2.2.2.2.2.2.2.2))))))))) else (some (0, (j2, g0.2.1, g0.2.2.1, g0.2.2.2.1, g0.2.2.2.2.1, g0.2.2.2.2.2.1, g0.2.2.2.2.2.2.1, g0.2.2.2.2.2.2.2.1, g0.2.2.2.2.2.2.2.2.1, g0.2.2.2.2.2.2.2.2.2.1, g0.2.2.2.2.2.2.2.2.2.2.1, g0.2.2.2.2.2.2.2.2.2.2.2.1, g0.2.2.2.2.2.2.2.2.2.2.2.2)))))
abbrev rm_M_secret : Room := { frames := 5, cells := 0, slots := 0, locals := 147 }
set_option maxHeartbeats 4000000 in
set_option maxRecDepth 100000 in
theorem k_M_secret (l : Launch) (D : va_G) (A : Nat → Nat) (cc : Nat → ClassId) (g0 : sM) (a0 : Int32) (a1 : Int32) (sz : Nat) (res : (Int64 × sM)) (hF : f_M_secret g0 a0 a1 = some res) : Met l y_M_secret (Cond.code y_M_secret b_M_secret 3 (some .long) :: wa) rm_M_secret (pw D (wM A cc g0) (kM cc) [.ref (A 0), .int a0, .int a1] sz) (va_Ql (fun r u => (r, u) = res) (bw D (wM A cc) (kM cc) (va_A (wM A cc g0) sz)) (va_A (wM A cc g0) sz)) 0 0 (va_A (wM A cc g0) sz) := by
  refine Met.ofW (cc := b_M_secret) (maxL := 3) (ret := (some .long)) (by decide) rfl ?_
  intro p e s m args below meth c s₁ B hml hv
  obtain ⟨rfl, hsz, hP, hK, hD0, hN⟩ := hv
  have hx := B.exec
  have hb := B.bytes
  have hr := B.returns
  have hts := atoms_spec (ws := Cond.code y_M_secret b_M_secret 3 (some .long) :: wa) B.pre
  have hw : ∀ w ∈ wa, w.before _ s = true := fun w h => hts w (List.mem_cons_of_mem _ h)
  have hown : s.vm.findClass R_M = some m.cls := findClass_of_methodNamed B.named
  have hlocks := B.notSynchronized
  subst hsz
  have hD := hD0.self (sz := s.heap.size)
  generalize hAe : va_A (wM A cc g0) s.heap.size = AA at hD ⊢
  have hA : ∀ q : Nat, s.heap.size ≤ q → AA q := fun q h => by rw [← hAe]; exact Or.inr h
  have hS : va_S AA s.heap s.heap [] := va_S.rf
  have hl := lv_entry ([.ref (A 0), .int a0, .int a1]) (n := 3) (Nat.le_of_ble_eq_true rfl)
  rw [lg_entry_eq]
  generalize (lg_sl ([.ref (A 0), .int a0, .int a1]) ++ List.replicate (3 - (lg_sl ([.ref (A 0), .int a0, .int a1])).length) Slot.unset).toArray = ls at hl ⊢
  have hl : lv_has ls 3 [(0, .ref (A 0)), (1, .int a0), (2, .int a1)] := hl
  unfold f_M_secret at hF
  refine lv_aload_n hx hb d_M_secret_0 rfl (lv_at hl 0 rfl) ?_
  refine lv_iload_n hx hb d_M_secret_1 rfl (lv_at hl 1 rfl) ?_
  obtain ⟨r1, e_r1, hF⟩ := Option.bind_eq_some_iff.mp hF
  refine vp_callSi (va_runS (As := [.int a0]) (rest := [.ref (A 0)]) ⟨hx, hb, hml, hown, hts⟩ (k_M_isSlot l a0 r1 e_r1) (va_cwS 1 hts (ga_S ww_582 ww_583 ww_4 ww_584) rfl rfl rfl (by decide +kernel) ⟨by decide, by decide⟩) (pcs_pre hN) rfl rfl hl.1 rfl (lv_room (Nat.le_of_ble_eq_true rfl)) d_M_secret_2 ⟨Nat.zero_le _, Nat.zero_le _⟩).run (fun z9 hz9 => ?_)
  obtain rfl : r1 = z9 := hz9.symm
  obtain ⟨j2, q4, hF⟩ := Option.bind_eq_some_iff.mp hF
  have k3 : ∀ (H : Heap) (locs : List Loc) (ls : Array Slot), va_P D vwC (wM A cc g0) H → va_D AA (wM A cc g0) → va_S AA s.heap H locs → lv_has ls 3 [(0, .ref (A 0)), (1, .int a0), (2, .int a1)] → W p l e rm_M_secret s m ([Value.ref (A 0), Value.int a0, Value.int a1] : List Value).toArray below meth c H locs 0 0 (MQ below (va_Ql (fun r u => (r, u) = res) (bw D (wM A cc) (kM cc) AA) AA) ([Value.ref (A 0), Value.int a0, Value.int a1] : List Value).toArray s 0 0 AA) (F0 m 31 ls [.int j2, .ref (A 0)]) := by
    intro H locs ls hP hD hS hl
    refine va_put (D := D) (ci := 3) (v := .int j2) (ty := .int) (C := R_M) (T := T_M) (N := 13) hx hb hts in_M ft_M ft_M_ok fn_M hown hK hP hD hS 0 rfl rfl 0 (by decide) (hw _ ww_534) (fun _ h9 => h9) rfl (by decide +kernel) rfl rfl (Nat.le_of_ble_eq_true rfl) d_M_secret_31 (fun H locs hP hD hS => ?_)
    have hP : va_P D vwC (wM A cc (j2, g0.2.1, g0.2.2.1, g0.2.2.2.1, g0.2.2.2.2.1, g0.2.2.2.2.2.1, g0.2.2.2.2.2.2.1, g0.2.2.2.2.2.2.2.1, g0.2.2.2.2.2.2.2.2.1, g0.2.2.2.2.2.2.2.2.2.1, g0.2.2.2.2.2.2.2.2.2.2.1, g0.2.2.2.2.2.2.2.2.2.2.2.1, g0.2.2.2.2.2.2.2.2.2.2.2.2)) H := hP
    have hD : va_D AA (wM A cc (j2, g0.2.1, g0.2.2.1, g0.2.2.2.1, g0.2.2.2.2.1, g0.2.2.2.2.2.1, g0.2.2.2.2.2.2.1, g0.2.2.2.2.2.2.2.1, g0.2.2.2.2.2.2.2.2.1, g0.2.2.2.2.2.2.2.2.2.1, g0.2.2.2.2.2.2.2.2.2.2.1, g0.2.2.2.2.2.2.2.2.2.2.2.1, g0.2.2.2.2.2.2.2.2.2.2.2.2)) := hD
    refine lv_aload_n hx hb d_M_secret_34 rfl (lv_at hl 0 rfl) ?_
    refine va_get (D := D) (ci := 3) (v := .int j2) (C := R_M) (T := T_M) (N := 13) hx hb hts in_M hown hK hP 0 rfl rfl 0 (by decide) (hw _ ww_534) (fun _ h9 => h9) rfl d_M_secret_35 ?_
    refine lv_if_eq hx hb d_M_secret_38 (tgt := 43) (by decide) (fun h9 => ?_) (fun h9 => ?_)
    · have hF := (if_pos h9).symm.trans hF
      refine lv_aload_n hx hb d_M_secret_43 rfl (lv_at hl 0 rfl) ?_
      refine va_get (D := D) (ci := 3) (v := .ref (A 2)) (C := R_M) (T := T_M) (N := 13) hx hb hts in_M hown hK hP 0 rfl rfl 2 (by decide) (hw _ ww_536) (fun _ h9 => h9) rfl d_M_secret_44 ?_
      refine lv_iload_n hx hb d_M_secret_47 rfl (lv_at hl 1 rfl) ?_
      refine lv_iload_n hx hb d_M_secret_48 rfl (lv_at hl 2 rfl) ?_
      refine lv_i2l (v := Int32.toInt64 a1) hx hb d_M_secret_49 rfl ?_
      by_cases h6 : a0 < 0 ∨ 6 ≤ Int32.toNatClampNeg a0
      · have h0 := (if_pos h6).symm.trans hF; cases h0
      have hF := (if_neg h6).symm.trans hF
      refine va_last hx hb hK hP hD hS 2 1 rfl rfl h6 d_M_secret_50 (fun H locs hP hD hS => ?_)
      have hP : va_P D vwC (wM A cc (j2, g0.2.1, (vp_updL g0.2.2.1 (Int32.toNatClampNeg a0) (Int32.toInt64 a1)), g0.2.2.2.1, g0.2.2.2.2.1, g0.2.2.2.2.2.1, g0.2.2.2.2.2.2.1, g0.2.2.2.2.2.2.2.1, g0.2.2.2.2.2.2.2.2.1, g0.2.2.2.2.2.2.2.2.2.1, g0.2.2.2.2.2.2.2.2.2.2.1, g0.2.2.2.2.2.2.2.2.2.2.2.1, g0.2.2.2.2.2.2.2.2.2.2.2.2)) H := hP
      have hD : va_D AA (wM A cc (j2, g0.2.1, (vp_updL g0.2.2.1 (Int32.toNatClampNeg a0) (Int32.toInt64 a1)), g0.2.2.2.1, g0.2.2.2.2.1, g0.2.2.2.2.2.1, g0.2.2.2.2.2.2.1, g0.2.2.2.2.2.2.2.1, g0.2.2.2.2.2.2.2.2.1, g0.2.2.2.2.2.2.2.2.2.1, g0.2.2.2.2.2.2.2.2.2.2.1, g0.2.2.2.2.2.2.2.2.2.2.2.1, g0.2.2.2.2.2.2.2.2.2.2.2.2)) := hD
      refine lv_aload_n hx hb d_M_secret_51 rfl (lv_at hl 0 rfl) ?_
      refine va_get (D := D) (ci := 3) (v := .ref (A 1)) (C := R_M) (T := T_M) (N := 13) hx hb hts in_M hown hK hP 0 rfl rfl 1 (by decide) (hw _ ww_535) (fun _ h9 => h9) rfl d_M_secret_52 ?_
      refine lv_iload_n hx hb d_M_secret_55 rfl (lv_at hl 1 rfl) ?_
      refine lv_iload_n hx hb d_M_secret_56 rfl (lv_at hl 2 rfl) ?_
      refine lv_i2l (v := Int32.toInt64 a1) hx hb d_M_secret_57 rfl ?_
      obtain ⟨r7, e_r7, hF⟩ := Option.bind_eq_some_iff.mp hF
      refine vp_callSl (va_runS (As := []) (rest := [.long (Int32.toInt64 a1), .int a0, .ref (A 1)]) ⟨hx, hb, hml, hown, hts⟩ (k_M_g l  r7 e_r7) (va_cwS 0 hts (ga_S ww_586 ww_587 ww_4 ww_588) rfl rfl rfl (by decide +kernel) ⟨by decide, by decide⟩) (pcs_pre hN) rfl rfl hl.1 rfl (lv_room (Nat.le_of_ble_eq_true rfl)) d_M_secret_58 ⟨Nat.zero_le _, Nat.zero_le _⟩).run (fun z9 hz9 => ?_)
      obtain rfl : r7 = z9 := hz9.symm
      obtain ⟨r8, e_r8, hF⟩ := Option.bind_eq_some_iff.mp hF
      refine vp_callSl (va_runS (As := [.long (Int32.toInt64 a1), .long r7]) (rest := [.int a0, .ref (A 1)]) ⟨hx, hb, hml, hown, hts⟩ (k_M_times l (Int32.toInt64 a1) r7 r8 e_r8) (va_cwS 2 hts (ga_S ww_590 ww_591 ww_4 ww_592) rfl rfl rfl (by decide +kernel) ⟨by decide, by decide⟩) (pcs_pre hN) rfl rfl hl.1 rfl (lv_room (Nat.le_of_ble_eq_true rfl)) d_M_secret_61 ⟨Nat.zero_le _, Nat.zero_le _⟩).run (fun z9 hz9 => ?_)
      obtain rfl : r8 = z9 := hz9.symm
      by_cases h9 : a0 < 0 ∨ 6 ≤ Int32.toNatClampNeg a0
      · have h0 := (if_pos h9).symm.trans hF; cases h0
      have hF := (if_neg h9).symm.trans hF
      refine va_last hx hb hK hP hD hS 1 0 rfl rfl h9 d_M_secret_64 (fun H locs hP hD hS => ?_)
      have hP : va_P D vwC (wM A cc (j2, (vp_updL g0.2.1 (Int32.toNatClampNeg a0) r8), (vp_updL g0.2.2.1 (Int32.toNatClampNeg a0) (Int32.toInt64 a1)), g0.2.2.2.1, g0.2.2.2.2.1, g0.2.2.2.2.2.1, g0.2.2.2.2.2.2.1, g0.2.2.2.2.2.2.2.1, g0.2.2.2.2.2.2.2.2.1, g0.2.2.2.2.2.2.2.2.2.1, g0.2.2.2.2.2.2.2.2.2.2.1, g0.2.2.2.2.2.2.2.2.2.2.2.1, g0.2.2.2.2.2.2.2.2.2.2.2.2)) H := hP
      have hD : va_D AA (wM A cc (j2, (vp_updL g0.2.1 (Int32.toNatClampNeg a0) r8), (vp_updL g0.2.2.1 (Int32.toNatClampNeg a0) (Int32.toInt64 a1)), g0.2.2.2.1, g0.2.2.2.2.1, g0.2.2.2.2.2.1, g0.2.2.2.2.2.2.1, g0.2.2.2.2.2.2.2.1, g0.2.2.2.2.2.2.2.2.1, g0.2.2.2.2.2.2.2.2.2.1, g0.2.2.2.2.2.2.2.2.2.2.1, g0.2.2.2.2.2.2.2.2.2.2.2.1, g0.2.2.2.2.2.2.2.2.2.2.2.2)) := hD
      refine lv_aload_n hx hb d_M_secret_65 rfl (lv_at hl 0 rfl) ?_
      refine va_get (D := D) (ci := 3) (v := .ref (A 1)) (C := R_M) (T := T_M) (N := 13) hx hb hts in_M hown hK hP 0 rfl rfl 1 (by decide) (hw _ ww_535) (fun _ h9 => h9) rfl d_M_secret_66 ?_
      refine lv_iload_n hx hb d_M_secret_69 rfl (lv_at hl 1 rfl) ?_
      by_cases h10 : a0 < 0 ∨ 6 ≤ Int32.toNatClampNeg a0
      · have h0 := (if_pos h10).symm.trans hF; cases h0
      have hF := (if_neg h10).symm.trans hF
      refine va_lald hx hb hK hP 1 0 rfl rfl h10 d_M_secret_70 ?_
      obtain ⟨r11, e_r11, hF⟩ := Option.bind_eq_some_iff.mp hF
      refine vp_callSl (va_runS (As := [.long ((vp_updL g0.2.1 (Int32.toNatClampNeg a0) r8) (Int32.toNatClampNeg a0))]) (rest := []) ⟨hx, hb, hml, hown, hts⟩ (k_M_codeOf l ((vp_updL g0.2.1 (Int32.toNatClampNeg a0) r8) (Int32.toNatClampNeg a0)) r11 e_r11) (va_cwS 1 hts (ga_S ww_615 ww_616 ww_4 ww_617) rfl rfl rfl (by decide +kernel) ⟨by decide, by decide⟩) (pcs_pre hN) rfl rfl hl.1 rfl (lv_room (Nat.le_of_ble_eq_true rfl)) d_M_secret_71 ⟨Nat.zero_le _, Nat.zero_le _⟩).run (fun z9 hz9 => ?_)
      obtain rfl : r11 = z9 := hz9.symm
      obtain rfl := Option.some.inj hF
      exact W.lret hx hb hr (fun t ht hW => ⟨⟨_, _, rfl, rfl, bw_end hP hK hD ht hW⟩, hS.F ht⟩) hS.2.2 d_M_secret_74
    · have hF := (if_neg h9).symm.trans hF
      refine lv_lconst (v := 0) hx hb d_M_secret_41 (by decide) ?_
      obtain rfl := Option.some.inj hF
      exact W.lret hx hb hr (fun t ht hW => ⟨⟨_, _, rfl, rfl, bw_end hP hK hD ht hW⟩, hS.F ht⟩) hS.2.2 d_M_secret_42
  clear hF
  have hF := q4
  refine lv_if_ne hx hb d_M_secret_5 (tgt := 12) (by decide) (fun h9 => ?_) (fun h9 => ?_)
  · have hF := (if_neg h9).symm.trans hF
    refine lv_iload_n hx hb d_M_secret_12 rfl (lv_at hl 2 rfl) ?_
    refine lv_iconst (v := 1) hx hb d_M_secret_13 (by decide) ?_
    refine lv_icmp_lt hx hb d_M_secret_14 (tgt := 26) (by decide) (fun h9 => ?_) (fun h9 => ?_)
    · have hF := (if_pos h9).symm.trans hF
      refine lv_iconst (v := 2) hx hb d_M_secret_26 (by decide) ?_
      refine lv_goto hx hb d_M_secret_27 (tgt := 31) (by decide) ?_
      obtain rfl := Option.some.inj hF
      exact k3 _ _ ls hP hD hS (lv_sub hl [0, 1, 2] rfl)
    · have hF := (if_neg h9).symm.trans hF
      refine lv_iload_n hx hb d_M_secret_17 rfl (lv_at hl 2 rfl) ?_
      refine lv_i2l (v := Int32.toInt64 a1) hx hb d_M_secret_18 rfl ?_
      refine lv_ldc2 (v := 1073729077) hx hb hown (hw _ ww_585) d_M_secret_19 ?_
      refine W.lcmp hx hb d_M_secret_22 ?_
      refine lv_if_lt hx hb d_M_secret_23 (tgt := 30) (by decide) (fun h9 => ?_) (fun h9 => ?_)
      · have hF := (if_pos h9).symm.trans hF
        refine lv_iconst (v := 0) hx hb d_M_secret_30 (by decide) ?_
        obtain rfl := Option.some.inj hF
        exact k3 _ _ ls hP hD hS (lv_sub hl [0, 1, 2] rfl)
      · have hF := (if_neg h9).symm.trans hF
        refine lv_iconst (v := 2) hx hb d_M_secret_26 (by decide) ?_
        refine lv_goto hx hb d_M_secret_27 (tgt := 31) (by decide) ?_
        obtain rfl := Option.some.inj hF
        exact k3 _ _ ls hP hD hS (lv_sub hl [0, 1, 2] rfl)
  · have hF := (if_pos h9).symm.trans hF
    refine lv_iconst (v := 1) hx hb d_M_secret_8 (by decide) ?_
    refine lv_goto hx hb d_M_secret_9 (tgt := 31) (by decide) ?_
    obtain rfl := Option.some.inj hF
    exact k3 _ _ ls hP hD hS (lv_sub hl [0, 1, 2] rfl)
def f_M_open (g0 : sM) (a0 : Int32) (a1 : Int64) : Option sM := Option.bind (f_M_isSlot a0) (fun r1 => Option.bind (if r1 = 0 then (some (1) : Option (Int32)) else (Option.bind (f_M_pointOf a1) (fun r12 => if (lg_cmp r12 (-1)) = 0 then (some (2)) else (some (0))))) (fun j2 => Option.bind (if j2 = 0 then (Option.bind (f_M_pointOf a1) (fun r10 => Option.bind (f_M_lay (j2, g0.2.1, g0.2.2.1, g0.2.2.2.1, g0.2.2.2.2.1, g0.2.2.2.2.2.1, g0.2.2.2.2.2.2.1, g0.2.2.2.2.2.2.2.1, g0.2.2.2.2.2.2.2.2.1, g0.2.2.2.2.2.2.2.2.2.1, g0.2.2.2.2.2.2.2.2.2.2.1, g0.2.2.2.2.2.2.2.2.2.2.2.1, g0.2.2.2.2.2.2.2.2.2.2.2.2) a0 r10) (fun g11 => some (g11))) : Option (sM)) else (some ((j2, g0.2.1, g0.2.2.1, g0.2.2.2.1, g0.2.2.2.2.1, g0.2.2.2.2.2.1, g0.2.2.2.2.2.2.1, g0.2.2.2.2.2.2.2.1, g0.2.2.2.2.2.2.2.2.1, g0.2.2.2.2.2.2.2.2.2.1, g0.2.2.2.2.2.2.2.2.2.2.1, g0.2.2.2.2.2.2.2.2.2.2.2.1, g0.2.2.2.2.2.2.2.2.2.2.2.2)))) (fun j6 => some (j6))))
abbrev rm_M_open : Room := { frames := 4, cells := 0, slots := 0, locals := 105 }
set_option maxHeartbeats 4000000 in
set_option maxRecDepth 100000 in
theorem k_M_open (l : Launch) (D : va_G) (A : Nat → Nat) (cc : Nat → ClassId) (g0 : sM) (a0 : Int32) (a1 : Int64) (sz : Nat) (res : sM) (hF : f_M_open g0 a0 a1 = some res) : Met l y_M_open (Cond.code y_M_open b_M_open 4 none :: wa) rm_M_open (pw D (wM A cc g0) (kM cc) [.ref (A 0), .int a0, .long a1] sz) (va_Qv (fun u => u = res) (bw D (wM A cc) (kM cc) (va_A (wM A cc g0) sz)) (va_A (wM A cc g0) sz)) 0 0 (va_A (wM A cc g0) sz) := by
  refine Met.ofW (cc := b_M_open) (maxL := 4) (ret := none) (by decide) rfl ?_
  intro p e s m args below meth c s₁ B hml hv
  obtain ⟨rfl, hsz, hP, hK, hD0, hN⟩ := hv
  have hx := B.exec
  have hb := B.bytes
  have hr := B.returns
  have hts := atoms_spec (ws := Cond.code y_M_open b_M_open 4 none :: wa) B.pre
  have hw : ∀ w ∈ wa, w.before _ s = true := fun w h => hts w (List.mem_cons_of_mem _ h)
  have hown : s.vm.findClass R_M = some m.cls := findClass_of_methodNamed B.named
  have hlocks := B.notSynchronized
  subst hsz
  have hD := hD0.self (sz := s.heap.size)
  generalize hAe : va_A (wM A cc g0) s.heap.size = AA at hD ⊢
  have hA : ∀ q : Nat, s.heap.size ≤ q → AA q := fun q h => by rw [← hAe]; exact Or.inr h
  have hS : va_S AA s.heap s.heap [] := va_S.rf
  have hl := lv_entry ([.ref (A 0), .int a0, .long a1]) (n := 4) (Nat.le_of_ble_eq_true rfl)
  rw [lg_entry_eq]
  generalize (lg_sl ([.ref (A 0), .int a0, .long a1]) ++ List.replicate (4 - (lg_sl ([.ref (A 0), .int a0, .long a1])).length) Slot.unset).toArray = ls at hl ⊢
  have hl : lv_has ls 4 [(0, .ref (A 0)), (1, .int a0), (2, .long a1)] := hl
  unfold f_M_open at hF
  refine lv_aload_n hx hb d_M_open_0 rfl (lv_at hl 0 rfl) ?_
  refine lv_iload_n hx hb d_M_open_1 rfl (lv_at hl 1 rfl) ?_
  obtain ⟨r1, e_r1, hF⟩ := Option.bind_eq_some_iff.mp hF
  refine vp_callSi (va_runS (As := [.int a0]) (rest := [.ref (A 0)]) ⟨hx, hb, hml, hown, hts⟩ (k_M_isSlot l a0 r1 e_r1) (va_cwS 1 hts (ga_S ww_582 ww_583 ww_4 ww_584) rfl rfl rfl (by decide +kernel) ⟨by decide, by decide⟩) (pcs_pre hN) rfl rfl hl.1 rfl (lv_room (Nat.le_of_ble_eq_true rfl)) d_M_open_2 ⟨Nat.zero_le _, Nat.zero_le _⟩).run (fun z9 hz9 => ?_)
  obtain rfl : r1 = z9 := hz9.symm
  obtain ⟨j2, q4, hF⟩ := Option.bind_eq_some_iff.mp hF
  have k3 : ∀ (H : Heap) (locs : List Loc) (ls : Array Slot), va_P D vwC (wM A cc g0) H → va_D AA (wM A cc g0) → va_S AA s.heap H locs → lv_has ls 4 [(0, .ref (A 0)), (1, .int a0), (2, .long a1)] → W p l e rm_M_open s m ([Value.ref (A 0), Value.int a0, Value.long a1] : List Value).toArray below meth c H locs 0 0 (MQ below (va_Qv (fun u => u = res) (bw D (wM A cc) (kM cc) AA) AA) ([Value.ref (A 0), Value.int a0, Value.long a1] : List Value).toArray s 0 0 AA) (F0 m 28 ls [.int j2, .ref (A 0)]) := by
    intro H locs ls hP hD hS hl
    refine va_put (D := D) (ci := 3) (v := .int j2) (ty := .int) (C := R_M) (T := T_M) (N := 13) hx hb hts in_M ft_M ft_M_ok fn_M hown hK hP hD hS 0 rfl rfl 0 (by decide) (hw _ ww_534) (fun _ h9 => h9) rfl (by decide +kernel) rfl rfl (Nat.le_of_ble_eq_true rfl) d_M_open_28 (fun H locs hP hD hS => ?_)
    have hP : va_P D vwC (wM A cc (j2, g0.2.1, g0.2.2.1, g0.2.2.2.1, g0.2.2.2.2.1, g0.2.2.2.2.2.1, g0.2.2.2.2.2.2.1, g0.2.2.2.2.2.2.2.1, g0.2.2.2.2.2.2.2.2.1, g0.2.2.2.2.2.2.2.2.2.1, g0.2.2.2.2.2.2.2.2.2.2.1, g0.2.2.2.2.2.2.2.2.2.2.2.1, g0.2.2.2.2.2.2.2.2.2.2.2.2)) H := hP
    have hD : va_D AA (wM A cc (j2, g0.2.1, g0.2.2.1, g0.2.2.2.1, g0.2.2.2.2.1, g0.2.2.2.2.2.1, g0.2.2.2.2.2.2.1, g0.2.2.2.2.2.2.2.1, g0.2.2.2.2.2.2.2.2.1, g0.2.2.2.2.2.2.2.2.2.1, g0.2.2.2.2.2.2.2.2.2.2.1, g0.2.2.2.2.2.2.2.2.2.2.2.1, g0.2.2.2.2.2.2.2.2.2.2.2.2)) := hD
    refine lv_aload_n hx hb d_M_open_31 rfl (lv_at hl 0 rfl) ?_
    refine va_get (D := D) (ci := 3) (v := .int j2) (C := R_M) (T := T_M) (N := 13) hx hb hts in_M hown hK hP 0 rfl rfl 0 (by decide) (hw _ ww_534) (fun _ h9 => h9) rfl d_M_open_32 ?_
    obtain ⟨j6, q8, hF⟩ := Option.bind_eq_some_iff.mp hF
    have k7 : ∀ (H : Heap) (locs : List Loc) (ls : Array Slot), va_P D vwC (wM A cc j6) H → va_D AA (wM A cc j6) → va_S AA s.heap H locs → lv_has ls 4 [] → W p l e rm_M_open s m ([Value.ref (A 0), Value.int a0, Value.long a1] : List Value).toArray below meth c H locs 0 0 (MQ below (va_Qv (fun u => u = res) (bw D (wM A cc) (kM cc) AA) AA) ([Value.ref (A 0), Value.int a0, Value.long a1] : List Value).toArray s 0 0 AA) (F0 m 47 ls []) := by
      intro H locs ls hP hD hS hl
      obtain rfl := Option.some.inj hF
      exact W.vret hx hb hr (fun t ht hW => ⟨⟨_, rfl, rfl, bw_end hP hK hD ht hW⟩, hS.F ht⟩) hS.2.2 d_M_open_47
    clear hF
    have hF := q8
    refine lv_if_ne hx hb d_M_open_35 (tgt := 47) (by decide) (fun h9 => ?_) (fun h9 => ?_)
    · have hF := (if_neg h9).symm.trans hF
      obtain rfl := Option.some.inj hF
      exact k7 _ _ ls hP hD hS (lv_sub hl [] rfl)
    · have hF := (if_pos h9).symm.trans hF
      refine lv_aload_n hx hb d_M_open_38 rfl (lv_at hl 0 rfl) ?_
      refine lv_iload_n hx hb d_M_open_39 rfl (lv_at hl 1 rfl) ?_
      refine lv_lload_n hx hb d_M_open_40 rfl (lv_at hl 2 rfl) ?_
      obtain ⟨r10, e_r10, hF⟩ := Option.bind_eq_some_iff.mp hF
      refine vp_callSl (va_runS (As := [.long a1]) (rest := [.int a0, .ref (A 0)]) ⟨hx, hb, hml, hown, hts⟩ (k_M_pointOf l a1 r10 e_r10) (va_cwS 1 hts (ga_S ww_623 ww_624 ww_4 ww_625) rfl rfl rfl (by decide +kernel) ⟨by decide, by decide⟩) (pcs_pre hN) rfl rfl hl.1 rfl (lv_room (Nat.le_of_ble_eq_true rfl)) d_M_open_41 ⟨Nat.zero_le _, Nat.zero_le _⟩).run (fun z9 hz9 => ?_)
      obtain rfl : r10 = z9 := hz9.symm
      obtain ⟨g11, e_g11, hF⟩ := Option.bind_eq_some_iff.mp hF
      have hFc := va_free (wc := wM A cc (j2, g0.2.1, g0.2.2.1, g0.2.2.2.1, g0.2.2.2.2.1, g0.2.2.2.2.2.1, g0.2.2.2.2.2.2.1, g0.2.2.2.2.2.2.2.1, g0.2.2.2.2.2.2.2.2.1, g0.2.2.2.2.2.2.2.2.2.1, g0.2.2.2.2.2.2.2.2.2.2.1, g0.2.2.2.2.2.2.2.2.2.2.2.1, g0.2.2.2.2.2.2.2.2.2.2.2.2)) hD hS hA [0, 1, 2, 3, 4, 5, 6, 7, 8] rfl
      refine va_callv (va_runV (As := [.int a0, .long r10]) (rest := []) ⟨hx, hb, hml, hown, hts⟩ (k_M_lay l D A cc (j2, g0.2.1, g0.2.2.1, g0.2.2.2.1, g0.2.2.2.2.1, g0.2.2.2.2.2.1, g0.2.2.2.2.2.2.1, g0.2.2.2.2.2.2.2.1, g0.2.2.2.2.2.2.2.2.1, g0.2.2.2.2.2.2.2.2.2.1, g0.2.2.2.2.2.2.2.2.2.2.1, g0.2.2.2.2.2.2.2.2.2.2.2.1, g0.2.2.2.2.2.2.2.2.2.2.2.2) a0 r10 _ g11 e_g11) (cwV 2 hts (ga_V ww_631 ww_633 wp_7 ww_4 ww_634) rfl rfl rfl (by decide +kernel) ⟨by decide, by decide⟩) (pw_pre (q0 := 0) (ci := 3) hP hK hD hN rfl rfl) rfl rfl hl.1 rfl (lv_room (Nat.le_of_ble_eq_true rfl)) d_M_open_44 ⟨Nat.zero_le _, Nat.zero_le _⟩) hS (fun q _ h => hFc q h) hFc (fun u9 t H locs ht hvm hp hB hz1 hk1 hS => ?_)
      obtain rfl : g11 = u9 := hp.symm
      obtain ⟨hP, hD⟩ := bw_back hB ht hFc
      obtain rfl := Option.some.inj hF
      exact k7 _ _ ls hP hD hS (lv_sub hl [] rfl)
  clear hF
  have hF := q4
  refine lv_if_ne hx hb d_M_open_5 (tgt := 12) (by decide) (fun h9 => ?_) (fun h9 => ?_)
  · have hF := (if_neg h9).symm.trans hF
    refine lv_lload_n hx hb d_M_open_12 rfl (lv_at hl 2 rfl) ?_
    obtain ⟨r12, e_r12, hF⟩ := Option.bind_eq_some_iff.mp hF
    refine vp_callSl (va_runS (As := [.long a1]) (rest := [.ref (A 0)]) ⟨hx, hb, hml, hown, hts⟩ (k_M_pointOf l a1 r12 e_r12) (va_cwS 1 hts (ga_S ww_623 ww_624 ww_4 ww_625) rfl rfl rfl (by decide +kernel) ⟨by decide, by decide⟩) (pcs_pre hN) rfl rfl hl.1 rfl (lv_room (Nat.le_of_ble_eq_true rfl)) d_M_open_13 ⟨Nat.zero_le _, Nat.zero_le _⟩).run (fun z9 hz9 => ?_)
    obtain rfl : r12 = z9 := hz9.symm
    refine lv_ldc2 (v := (-1)) hx hb hown (hw _ ww_533) d_M_open_16 ?_
    refine W.lcmp hx hb d_M_open_19 ?_
    refine lv_if_ne hx hb d_M_open_20 (tgt := 27) (by decide) (fun h9 => ?_) (fun h9 => ?_)
    · have hF := (if_neg h9).symm.trans hF
      refine lv_iconst (v := 0) hx hb d_M_open_27 (by decide) ?_
      obtain rfl := Option.some.inj hF
      exact k3 _ _ ls hP hD hS (lv_sub hl [0, 1, 2] rfl)
    · have hF := (if_pos h9).symm.trans hF
      refine lv_iconst (v := 2) hx hb d_M_open_23 (by decide) ?_
      refine lv_goto hx hb d_M_open_24 (tgt := 28) (by decide) ?_
      obtain rfl := Option.some.inj hF
      exact k3 _ _ ls hP hD hS (lv_sub hl [0, 1, 2] rfl)
  · have hF := (if_pos h9).symm.trans hF
    refine lv_iconst (v := 1) hx hb d_M_open_8 (by decide) ?_
    refine lv_goto hx hb d_M_open_9 (tgt := 28) (by decide) ?_
    obtain rfl := Option.some.inj hF
    exact k3 _ _ ls hP hD hS (lv_sub hl [0, 1, 2] rfl)
def f_M_code (g0 : sM) (a0 : Int32) : Option (Int64 × sM) := Option.bind (f_M_isSlot a0) (fun r1 => Option.bind (if r1 = 0 then (some (1) : Option (Int32)) else (some (0))) (fun j2 => Option.bind (if j2 = 0 then (if a0 < 0 ∨ 6 ≤ Int32.toNatClampNeg a0 then none else (Option.bind (f_M_codeOf (g0.2.1 (Int32.toNatClampNeg a0))) (fun r11 => some (r11))) : Option (Int64)) else (some (0))) (fun j6 => some (j6, (j2, g0.2.1, g0.2.2.1, g0.2.2.2.1, g0.2.2.2.2.1, g0.2.2.2.2.2.1, g0.2.2.2.2.2.2.1, g0.2.2.2.2.2.2.2.1, g0.2.2.2.2.2.2.2.2.1, g0.2.2.2.2.2.2.2.2.2.1, g0.2.2.2.2.2.2.2.2.2.2.1, g0.2.2.2.2.2.2.2.2.2.2.2.1, g0.2.2.2.2.2.2.2.2.2.2.2.2)))))
abbrev rm_M_code : Room := { frames := 2, cells := 0, slots := 0, locals := 42 }
set_option maxHeartbeats 4000000 in
set_option maxRecDepth 100000 in
theorem k_M_code (l : Launch) (D : va_G) (A : Nat → Nat) (cc : Nat → ClassId) (g0 : sM) (a0 : Int32) (sz : Nat) (res : (Int64 × sM)) (hF : f_M_code g0 a0 = some res) : Met l y_M_code (Cond.code y_M_code b_M_code 2 (some .long) :: wa) rm_M_code (pw D (wM A cc g0) (kM cc) [.ref (A 0), .int a0] sz) (va_Ql (fun r u => (r, u) = res) (bw D (wM A cc) (kM cc) (va_A (wM A cc g0) sz)) (va_A (wM A cc g0) sz)) 0 0 (va_A (wM A cc g0) sz) := by
  refine Met.ofW (cc := b_M_code) (maxL := 2) (ret := (some .long)) (by decide) rfl ?_
  intro p e s m args below meth c s₁ B hml hv
  obtain ⟨rfl, hsz, hP, hK, hD0, hN⟩ := hv
  have hx := B.exec
  have hb := B.bytes
  have hr := B.returns
  have hts := atoms_spec (ws := Cond.code y_M_code b_M_code 2 (some .long) :: wa) B.pre
  have hw : ∀ w ∈ wa, w.before _ s = true := fun w h => hts w (List.mem_cons_of_mem _ h)
  have hown : s.vm.findClass R_M = some m.cls := findClass_of_methodNamed B.named
  have hlocks := B.notSynchronized
  subst hsz
  have hD := hD0.self (sz := s.heap.size)
  generalize hAe : va_A (wM A cc g0) s.heap.size = AA at hD ⊢
  have hA : ∀ q : Nat, s.heap.size ≤ q → AA q := fun q h => by rw [← hAe]; exact Or.inr h
  have hS : va_S AA s.heap s.heap [] := va_S.rf
  have hl := lv_entry ([.ref (A 0), .int a0]) (n := 2) (Nat.le_of_ble_eq_true rfl)
  rw [lg_entry_eq]
  generalize (lg_sl ([.ref (A 0), .int a0]) ++ List.replicate (2 - (lg_sl ([.ref (A 0), .int a0])).length) Slot.unset).toArray = ls at hl ⊢
  have hl : lv_has ls 2 [(0, .ref (A 0)), (1, .int a0)] := hl
  unfold f_M_code at hF
  refine lv_aload_n hx hb d_M_code_0 rfl (lv_at hl 0 rfl) ?_
  refine lv_iload_n hx hb d_M_code_1 rfl (lv_at hl 1 rfl) ?_
  obtain ⟨r1, e_r1, hF⟩ := Option.bind_eq_some_iff.mp hF
  refine vp_callSi (va_runS (As := [.int a0]) (rest := [.ref (A 0)]) ⟨hx, hb, hml, hown, hts⟩ (k_M_isSlot l a0 r1 e_r1) (va_cwS 1 hts (ga_S ww_582 ww_583 ww_4 ww_584) rfl rfl rfl (by decide +kernel) ⟨by decide, by decide⟩) (pcs_pre hN) rfl rfl hl.1 rfl (lv_room (Nat.le_of_ble_eq_true rfl)) d_M_code_2 ⟨Nat.zero_le _, Nat.zero_le _⟩).run (fun z9 hz9 => ?_)
  obtain rfl : r1 = z9 := hz9.symm
  obtain ⟨j2, q4, hF⟩ := Option.bind_eq_some_iff.mp hF
  have k3 : ∀ (H : Heap) (locs : List Loc) (ls : Array Slot), va_P D vwC (wM A cc g0) H → va_D AA (wM A cc g0) → va_S AA s.heap H locs → lv_has ls 2 [(0, .ref (A 0)), (1, .int a0)] → W p l e rm_M_code s m ([Value.ref (A 0), Value.int a0] : List Value).toArray below meth c H locs 0 0 (MQ below (va_Ql (fun r u => (r, u) = res) (bw D (wM A cc) (kM cc) AA) AA) ([Value.ref (A 0), Value.int a0] : List Value).toArray s 0 0 AA) (F0 m 13 ls [.int j2, .ref (A 0)]) := by
    intro H locs ls hP hD hS hl
    refine va_put (D := D) (ci := 3) (v := .int j2) (ty := .int) (C := R_M) (T := T_M) (N := 13) hx hb hts in_M ft_M ft_M_ok fn_M hown hK hP hD hS 0 rfl rfl 0 (by decide) (hw _ ww_534) (fun _ h9 => h9) rfl (by decide +kernel) rfl rfl (Nat.le_of_ble_eq_true rfl) d_M_code_13 (fun H locs hP hD hS => ?_)
    have hP : va_P D vwC (wM A cc (j2, g0.2.1, g0.2.2.1, g0.2.2.2.1, g0.2.2.2.2.1, g0.2.2.2.2.2.1, g0.2.2.2.2.2.2.1, g0.2.2.2.2.2.2.2.1, g0.2.2.2.2.2.2.2.2.1, g0.2.2.2.2.2.2.2.2.2.1, g0.2.2.2.2.2.2.2.2.2.2.1, g0.2.2.2.2.2.2.2.2.2.2.2.1, g0.2.2.2.2.2.2.2.2.2.2.2.2)) H := hP
    have hD : va_D AA (wM A cc (j2, g0.2.1, g0.2.2.1, g0.2.2.2.1, g0.2.2.2.2.1, g0.2.2.2.2.2.1, g0.2.2.2.2.2.2.1, g0.2.2.2.2.2.2.2.1, g0.2.2.2.2.2.2.2.2.1, g0.2.2.2.2.2.2.2.2.2.1, g0.2.2.2.2.2.2.2.2.2.2.1, g0.2.2.2.2.2.2.2.2.2.2.2.1, g0.2.2.2.2.2.2.2.2.2.2.2.2)) := hD
    refine lv_aload_n hx hb d_M_code_16 rfl (lv_at hl 0 rfl) ?_
    refine va_get (D := D) (ci := 3) (v := .int j2) (C := R_M) (T := T_M) (N := 13) hx hb hts in_M hown hK hP 0 rfl rfl 0 (by decide) (hw _ ww_534) (fun _ h9 => h9) rfl d_M_code_17 ?_
    obtain ⟨j6, q8, hF⟩ := Option.bind_eq_some_iff.mp hF
    have k7 : ∀ (H : Heap) (locs : List Loc) (ls : Array Slot), va_P D vwC (wM A cc (j2, g0.2.1, g0.2.2.1, g0.2.2.2.1, g0.2.2.2.2.1, g0.2.2.2.2.2.1, g0.2.2.2.2.2.2.1, g0.2.2.2.2.2.2.2.1, g0.2.2.2.2.2.2.2.2.1, g0.2.2.2.2.2.2.2.2.2.1, g0.2.2.2.2.2.2.2.2.2.2.1, g0.2.2.2.2.2.2.2.2.2.2.2.1, g0.2.2.2.2.2.2.2.2.2.2.2.2)) H → va_D AA (wM A cc (j2, g0.2.1, g0.2.2.1, g0.2.2.2.1, g0.2.2.2.2.1, g0.2.2.2.2.2.1, g0.2.2.2.2.2.2.1, g0.2.2.2.2.2.2.2.1, g0.2.2.2.2.2.2.2.2.1, g0.2.2.2.2.2.2.2.2.2.1, g0.2.2.2.2.2.2.2.2.2.2.1, g0.2.2.2.2.2.2.2.2.2.2.2.1, g0.2.2.2.2.2.2.2.2.2.2.2.2)) → va_S AA s.heap H locs → lv_has ls 2 [] → W p l e rm_M_code s m ([Value.ref (A 0), Value.int a0] : List Value).toArray below meth c H locs 0 0 (MQ below (va_Ql (fun r u => (r, u) = res) (bw D (wM A cc) (kM cc) AA) AA) ([Value.ref (A 0), Value.int a0] : List Value).toArray s 0 0 AA) (F0 m 36 ls [.long j6]) := by
      intro H locs ls hP hD hS hl
      obtain rfl := Option.some.inj hF
      exact W.lret hx hb hr (fun t ht hW => ⟨⟨_, _, rfl, rfl, bw_end hP hK hD ht hW⟩, hS.F ht⟩) hS.2.2 d_M_code_36
    clear hF
    have hF := q8
    refine lv_if_ne hx hb d_M_code_20 (tgt := 35) (by decide) (fun h9 => ?_) (fun h9 => ?_)
    · have hF := (if_neg h9).symm.trans hF
      refine lv_lconst (v := 0) hx hb d_M_code_35 (by decide) ?_
      obtain rfl := Option.some.inj hF
      exact k7 _ _ ls hP hD hS (lv_sub hl [] rfl)
    · have hF := (if_pos h9).symm.trans hF
      refine lv_aload_n hx hb d_M_code_23 rfl (lv_at hl 0 rfl) ?_
      refine va_get (D := D) (ci := 3) (v := .ref (A 1)) (C := R_M) (T := T_M) (N := 13) hx hb hts in_M hown hK hP 0 rfl rfl 1 (by decide) (hw _ ww_535) (fun _ h9 => h9) rfl d_M_code_24 ?_
      refine lv_iload_n hx hb d_M_code_27 rfl (lv_at hl 1 rfl) ?_
      by_cases h10 : a0 < 0 ∨ 6 ≤ Int32.toNatClampNeg a0
      · have h0 := (if_pos h10).symm.trans hF; cases h0
      have hF := (if_neg h10).symm.trans hF
      refine va_lald hx hb hK hP 1 0 rfl rfl h10 d_M_code_28 ?_
      obtain ⟨r11, e_r11, hF⟩ := Option.bind_eq_some_iff.mp hF
      refine vp_callSl (va_runS (As := [.long (g0.2.1 (Int32.toNatClampNeg a0))]) (rest := []) ⟨hx, hb, hml, hown, hts⟩ (k_M_codeOf l (g0.2.1 (Int32.toNatClampNeg a0)) r11 e_r11) (va_cwS 1 hts (ga_S ww_615 ww_616 ww_4 ww_617) rfl rfl rfl (by decide +kernel) ⟨by decide, by decide⟩) (pcs_pre hN) rfl rfl hl.1 rfl (lv_room (Nat.le_of_ble_eq_true rfl)) d_M_code_29 ⟨Nat.zero_le _, Nat.zero_le _⟩).run (fun z9 hz9 => ?_)
      obtain rfl : r11 = z9 := hz9.symm
      refine lv_goto hx hb d_M_code_32 (tgt := 36) (by decide) ?_
      obtain rfl := Option.some.inj hF
      exact k7 _ _ ls hP hD hS (lv_sub hl [] rfl)
  clear hF
  have hF := q4
  refine lv_if_eq hx hb d_M_code_5 (tgt := 12) (by decide) (fun h9 => ?_) (fun h9 => ?_)
  · have hF := (if_pos h9).symm.trans hF
    refine lv_iconst (v := 1) hx hb d_M_code_12 (by decide) ?_
    obtain rfl := Option.some.inj hF
    exact k3 _ _ ls hP hD hS (lv_sub hl [0, 1] rfl)
  · have hF := (if_neg h9).symm.trans hF
    refine lv_iconst (v := 0) hx hb d_M_code_8 (by decide) ?_
    refine lv_goto hx hb d_M_code_9 (tgt := 13) (by decide) ?_
    obtain rfl := Option.some.inj hF
    exact k3 _ _ ls hP hD hS (lv_sub hl [0, 1] rfl)
def f_M_even (g0 : sM) (a0 : Int32) : Option (Int64 × sM) := Option.bind (f_M_lift (Int32.toInt64 a0) 0) (fun r1 => Option.bind (f_M_codeOf r1) (fun r2 => some (r2, (0, g0.2.1, g0.2.2.1, g0.2.2.2.1, g0.2.2.2.2.1, g0.2.2.2.2.2.1, g0.2.2.2.2.2.2.1, g0.2.2.2.2.2.2.2.1, g0.2.2.2.2.2.2.2.2.1, g0.2.2.2.2.2.2.2.2.2.1, g0.2.2.2.2.2.2.2.2.2.2.1, g0.2.2.2.2.2.2.2.2.2.2.2.1, g0.2.2.2.2.2.2.2.2.2.2.2.2))))
abbrev rm_M_even : Room := { frames := 3, cells := 0, slots := 0, locals := 82 }
set_option maxHeartbeats 4000000 in
set_option maxRecDepth 100000 in
theorem k_M_even (l : Launch) (D : va_G) (A : Nat → Nat) (cc : Nat → ClassId) (g0 : sM) (a0 : Int32) (sz : Nat) (res : (Int64 × sM)) (hF : f_M_even g0 a0 = some res) : Met l y_M_even (Cond.code y_M_even b_M_even 2 (some .long) :: wa) rm_M_even (pw D (wM A cc g0) (kM cc) [.ref (A 0), .int a0] sz) (va_Ql (fun r u => (r, u) = res) (bw D (wM A cc) (kM cc) (va_A (wM A cc g0) sz)) (va_A (wM A cc g0) sz)) 0 0 (va_A (wM A cc g0) sz) := by
  refine Met.ofW (cc := b_M_even) (maxL := 2) (ret := (some .long)) (by decide) rfl ?_
  intro p e s m args below meth c s₁ B hml hv
  obtain ⟨rfl, hsz, hP, hK, hD0, hN⟩ := hv
  have hx := B.exec
  have hb := B.bytes
  have hr := B.returns
  have hts := atoms_spec (ws := Cond.code y_M_even b_M_even 2 (some .long) :: wa) B.pre
  have hw : ∀ w ∈ wa, w.before _ s = true := fun w h => hts w (List.mem_cons_of_mem _ h)
  have hown : s.vm.findClass R_M = some m.cls := findClass_of_methodNamed B.named
  have hlocks := B.notSynchronized
  subst hsz
  have hD := hD0.self (sz := s.heap.size)
  generalize hAe : va_A (wM A cc g0) s.heap.size = AA at hD ⊢
  have hA : ∀ q : Nat, s.heap.size ≤ q → AA q := fun q h => by rw [← hAe]; exact Or.inr h
  have hS : va_S AA s.heap s.heap [] := va_S.rf
  have hl := lv_entry ([.ref (A 0), .int a0]) (n := 2) (Nat.le_of_ble_eq_true rfl)
  rw [lg_entry_eq]
  generalize (lg_sl ([.ref (A 0), .int a0]) ++ List.replicate (2 - (lg_sl ([.ref (A 0), .int a0])).length) Slot.unset).toArray = ls at hl ⊢
  have hl : lv_has ls 2 [(0, .ref (A 0)), (1, .int a0)] := hl
  unfold f_M_even at hF
  refine lv_aload_n hx hb d_M_even_0 rfl (lv_at hl 0 rfl) ?_
  refine lv_iconst (v := 0) hx hb d_M_even_1 (by decide) ?_
  refine va_put (D := D) (ci := 3) (v := .int 0) (ty := .int) (C := R_M) (T := T_M) (N := 13) hx hb hts in_M ft_M ft_M_ok fn_M hown hK hP hD hS 0 rfl rfl 0 (by decide) (hw _ ww_534) (fun _ h9 => h9) rfl (by decide +kernel) rfl rfl (Nat.le_of_ble_eq_true rfl) d_M_even_2 (fun H locs hP hD hS => ?_)
  have hP : va_P D vwC (wM A cc (0, g0.2.1, g0.2.2.1, g0.2.2.2.1, g0.2.2.2.2.1, g0.2.2.2.2.2.1, g0.2.2.2.2.2.2.1, g0.2.2.2.2.2.2.2.1, g0.2.2.2.2.2.2.2.2.1, g0.2.2.2.2.2.2.2.2.2.1, g0.2.2.2.2.2.2.2.2.2.2.1, g0.2.2.2.2.2.2.2.2.2.2.2.1, g0.2.2.2.2.2.2.2.2.2.2.2.2)) H := hP
  have hD : va_D AA (wM A cc (0, g0.2.1, g0.2.2.1, g0.2.2.2.1, g0.2.2.2.2.1, g0.2.2.2.2.2.1, g0.2.2.2.2.2.2.1, g0.2.2.2.2.2.2.2.1, g0.2.2.2.2.2.2.2.2.1, g0.2.2.2.2.2.2.2.2.2.1, g0.2.2.2.2.2.2.2.2.2.2.1, g0.2.2.2.2.2.2.2.2.2.2.2.1, g0.2.2.2.2.2.2.2.2.2.2.2.2)) := hD
  refine lv_iload_n hx hb d_M_even_5 rfl (lv_at hl 1 rfl) ?_
  refine lv_i2l (v := Int32.toInt64 a0) hx hb d_M_even_6 rfl ?_
  refine lv_iconst (v := 0) hx hb d_M_even_7 (by decide) ?_
  obtain ⟨r1, e_r1, hF⟩ := Option.bind_eq_some_iff.mp hF
  refine vp_callSl (va_runS (As := [.long (Int32.toInt64 a0), .int 0]) (rest := []) ⟨hx, hb, hml, hown, hts⟩ (k_M_lift l (Int32.toInt64 a0) 0 r1 e_r1) (va_cwS 2 hts (ga_S ww_626 ww_627 ww_4 ww_628) rfl rfl rfl (by decide +kernel) ⟨by decide, by decide⟩) (pcs_pre hN) rfl rfl hl.1 rfl (lv_room (Nat.le_of_ble_eq_true rfl)) d_M_even_8 ⟨Nat.zero_le _, Nat.zero_le _⟩).run (fun z9 hz9 => ?_)
  obtain rfl : r1 = z9 := hz9.symm
  obtain ⟨r2, e_r2, hF⟩ := Option.bind_eq_some_iff.mp hF
  refine vp_callSl (va_runS (As := [.long r1]) (rest := []) ⟨hx, hb, hml, hown, hts⟩ (k_M_codeOf l r1 r2 e_r2) (va_cwS 1 hts (ga_S ww_615 ww_616 ww_4 ww_617) rfl rfl rfl (by decide +kernel) ⟨by decide, by decide⟩) (pcs_pre hN) rfl rfl hl.1 rfl (lv_room (Nat.le_of_ble_eq_true rfl)) d_M_even_11 ⟨Nat.zero_le _, Nat.zero_le _⟩).run (fun z9 hz9 => ?_)
  obtain rfl : r2 = z9 := hz9.symm
  obtain rfl := Option.some.inj hF
  exact W.lret hx hb hr (fun t ht hW => ⟨⟨_, _, rfl, rfl, bw_end hP hK hD ht hW⟩, hS.F ht⟩) hS.2.2 d_M_even_14
def f_M_tweak (g0 : sM) (a0 : Int32) (a1 : Int32) (a2 : Int32) : Option (Int64 × sM) := Option.bind (f_M_isSlot a0) (fun r1 => Option.bind (if r1 = 0 then (some (1, g0) : Option (Int32 × sM)) else (Option.bind (f_M_full g0 a0) (fun t37 => match t37 with | (r36, g35) => (if r36 = 0 then (some (2, g35)) else (Option.bind (f_M_isScalar a1) (fun r38 => if r38 = 0 then (some (3, g35)) else (some (0, g35)))))))) (fun t6 => match t6 with | (j2, j3) => (if j2 = 0 then (Option.bind (if a2 = 0 then (if a0 < 0 ∨ 6 ≤ Int32.toNatClampNeg a0 then none else (Option.bind (f_M_g ) (fun r30 => Option.bind (f_M_times (Int32.toInt64 a1) r30) (fun r31 => Option.bind (f_M_sum (j3.2.1 (Int32.toNatClampNeg a0)) r31) (fun r32 => some (r32))))) : Option (Int64)) else (if a0 < 0 ∨ 6 ≤ Int32.toNatClampNeg a0 then none else (Option.bind (f_M_times (Int32.toInt64 a1) (j3.2.1 (Int32.toNatClampNeg a0))) (fun r34 => some (r34))))) (fun j7 => Option.bind (if (lg_cmp j7 (-1)) = 0 then (some (3) : Option (Int32)) else (some (0))) (fun j11 => if j11 = 0 then (if a0 < 0 ∨ 6 ≤ Int32.toNatClampNeg a0 then none else (if a0 < 0 ∨ 6 ≤ Int32.toNatClampNeg a0 then none else (Option.bind (if (lg_cmp (j3.2.2.1 (Int32.toNatClampNeg a0)) 0) ≤ 0 then (some ((j11, (vp_updL j3.2.1 (Int32.toNatClampNeg a0) j7), j3.2.2.1, j3.2.2.2.1, j3.2.2.2.2.1, j3.2.2.2.2.2.1, j3.2.2.2.2.2.2.1, j3.2.2.2.2.2.2.2.1, j3.2.2.2.2.2.2.2.2.1, j3.2.2.2.2.2.2.2.2.2.1, j3.2.2.2.2.2.2.2.2.2.2.1, j3.2.2.2.2.2.2.2.2.2.2.2.1, j3.2.2.2.2.2.2.2.2.2.2.2.2)) : Option (sM)) else (Option.bind (if a2 = 0 then (if a0 < 0 ∨ 6 ≤ Int32.toNatClampNeg a0 then none else (some (((j3.2.2.1 (Int32.toNatClampNeg a0)) + (Int32.toInt64 a1)) - ((j3.2.2.1 (Int32.toNatClampNeg a0)) + (Int32.toInt64 a1)) / 1073729077 * 1073729077)) : Option (Int64)) else (if a0 < 0 ∨ 6 ≤ Int32.toNatClampNeg a0 then none else (some (((j3.2.2.1 (Int32.toNatClampNeg a0)) * (Int32.toInt64 a1)) - ((j3.2.2.1 (Int32.toNatClampNeg a0)) * (Int32.toInt64 a1)) / 1073729077 * 1073729077)))) (fun j22 => if a0 < 0 ∨ 6 ≤ Int32.toNatClampNeg a0 then none else (some ((j11, (vp_updL j3.2.1 (Int32.toNatClampNeg a0) j7), (vp_updL j3.2.2.1 (Int32.toNatClampNeg a0) j22), j3.2.2.2.1, j3.2.2.2.2.1, j3.2.2.2.2.2.1, j3.2.2.2.2.2.2.1, j3.2.2.2.2.2.2.2.1, j3.2.2.2.2.2.2.2.2.1, j3.2.2.2.2.2.2.2.2.2.1, j3.2.2.2.2.2.2.2.2.2.2.1, j3.2.2.2.2.2.2.2.2.2.2.2.1, j3.2.2.2.2.2.2.2.2.2.2.2.2)))))) (fun j17 => Option.bind (f_M_codeOf j7) (fun r21 => some (r21, j17)))))) else (some (0, (j11, j3.2.1, j3.2.2.1, j3.2.2.2.1, j3.2.2.2.2.1, j3.2.2.2.2.2.1, j3.2.2.2.2.2.2.1, j3.2.2.2.2.2.2.2.1, j3.2.2.2.2.2.2.2.2.1, j3.2.2.2.2.2.2.2.2.2.1, j3.2.2.2.2.2.2.2.2.2.2.1, j3.2.2.2.2.2.2.2.2.2.2.2.1, j3.2.2.2.2.2.2.2.2.2.2.2.2)))))) else (some (0, (j2, j3.2.1, j3.2.2.1, j3.2.2.2.1, j3.2.2.2.2.1, j3.2.2.2.2.2.1, j3.2.2.2.2.2.2.1, j3.2.2.2.2.2.2.2.1, j3.2.2.2.2.2.2.2.2.1, j3.2.2.2.2.2.2.2.2.2.1, j3.2.2.2.2.2.2.2.2.2.2.1, j3.2.2.2.2.2.2.2.2.2.2.2.1, j3.2.2.2.2.2.2.2.2.2.2.2.2))))))
abbrev rm_M_tweak : Room := { frames := 5, cells := 0, slots := 0, locals := 147 }
set_option maxHeartbeats 4000000 in
set_option maxRecDepth 100000 in
theorem k_M_tweak (l : Launch) (D : va_G) (A : Nat → Nat) (cc : Nat → ClassId) (g0 : sM) (a0 : Int32) (a1 : Int32) (a2 : Int32) (sz : Nat) (res : (Int64 × sM)) (hF : f_M_tweak g0 a0 a1 a2 = some res) : Met l y_M_tweak (Cond.code y_M_tweak b_M_tweak 6 (some .long) :: wa) rm_M_tweak (pw D (wM A cc g0) (kM cc) [.ref (A 0), .int a0, .int a1, .int a2] sz) (va_Ql (fun r u => (r, u) = res) (bw D (wM A cc) (kM cc) (va_A (wM A cc g0) sz)) (va_A (wM A cc g0) sz)) 0 0 (va_A (wM A cc g0) sz) := by
  refine Met.ofW (cc := b_M_tweak) (maxL := 6) (ret := (some .long)) (by decide) rfl ?_
  intro p e s m args below meth c s₁ B hml hv
  obtain ⟨rfl, hsz, hP, hK, hD0, hN⟩ := hv
  have hx := B.exec
  have hb := B.bytes
  have hr := B.returns
  have hts := atoms_spec (ws := Cond.code y_M_tweak b_M_tweak 6 (some .long) :: wa) B.pre
  have hw : ∀ w ∈ wa, w.before _ s = true := fun w h => hts w (List.mem_cons_of_mem _ h)
  have hown : s.vm.findClass R_M = some m.cls := findClass_of_methodNamed B.named
  have hlocks := B.notSynchronized
  subst hsz
  have hD := hD0.self (sz := s.heap.size)
  generalize hAe : va_A (wM A cc g0) s.heap.size = AA at hD ⊢
  have hA : ∀ q : Nat, s.heap.size ≤ q → AA q := fun q h => by rw [← hAe]; exact Or.inr h
  have hS : va_S AA s.heap s.heap [] := va_S.rf
  have hl := lv_entry ([.ref (A 0), .int a0, .int a1, .int a2]) (n := 6) (Nat.le_of_ble_eq_true rfl)
  rw [lg_entry_eq]
  generalize (lg_sl ([.ref (A 0), .int a0, .int a1, .int a2]) ++ List.replicate (6 - (lg_sl ([.ref (A 0), .int a0, .int a1, .int a2])).length) Slot.unset).toArray = ls at hl ⊢
  have hl : lv_has ls 6 [(0, .ref (A 0)), (1, .int a0), (2, .int a1), (3, .int a2)] := hl
  unfold f_M_tweak at hF
  refine lv_aload_n hx hb d_M_tweak_0 rfl (lv_at hl 0 rfl) ?_
  refine lv_iload_n hx hb d_M_tweak_1 rfl (lv_at hl 1 rfl) ?_
  obtain ⟨r1, e_r1, hF⟩ := Option.bind_eq_some_iff.mp hF
  refine vp_callSi (va_runS (As := [.int a0]) (rest := [.ref (A 0)]) ⟨hx, hb, hml, hown, hts⟩ (k_M_isSlot l a0 r1 e_r1) (va_cwS 1 hts (ga_S ww_582 ww_583 ww_4 ww_584) rfl rfl rfl (by decide +kernel) ⟨by decide, by decide⟩) (pcs_pre hN) rfl rfl hl.1 rfl (lv_room (Nat.le_of_ble_eq_true rfl)) d_M_tweak_2 ⟨Nat.zero_le _, Nat.zero_le _⟩).run (fun z9 hz9 => ?_)
  obtain rfl : r1 = z9 := hz9.symm
  obtain ⟨⟨j2, j3⟩, q5, hF⟩ := Option.bind_eq_some_iff.mp hF
  have k4 : ∀ (H : Heap) (locs : List Loc) (ls : Array Slot), va_P D vwC (wM A cc j3) H → va_D AA (wM A cc j3) → va_S AA s.heap H locs → lv_has ls 6 [(0, .ref (A 0)), (1, .int a0), (2, .int a1), (3, .int a2)] → W p l e rm_M_tweak s m ([Value.ref (A 0), Value.int a0, Value.int a1, Value.int a2] : List Value).toArray below meth c H locs 0 0 (MQ below (va_Ql (fun r u => (r, u) = res) (bw D (wM A cc) (kM cc) AA) AA) ([Value.ref (A 0), Value.int a0, Value.int a1, Value.int a2] : List Value).toArray s 0 0 AA) (F0 m 36 ls [.int j2, .ref (A 0)]) := by
    intro H locs ls hP hD hS hl
    refine va_put (D := D) (ci := 3) (v := .int j2) (ty := .int) (C := R_M) (T := T_M) (N := 13) hx hb hts in_M ft_M ft_M_ok fn_M hown hK hP hD hS 0 rfl rfl 0 (by decide) (hw _ ww_534) (fun _ h9 => h9) rfl (by decide +kernel) rfl rfl (Nat.le_of_ble_eq_true rfl) d_M_tweak_36 (fun H locs hP hD hS => ?_)
    have hP : va_P D vwC (wM A cc (j2, j3.2.1, j3.2.2.1, j3.2.2.2.1, j3.2.2.2.2.1, j3.2.2.2.2.2.1, j3.2.2.2.2.2.2.1, j3.2.2.2.2.2.2.2.1, j3.2.2.2.2.2.2.2.2.1, j3.2.2.2.2.2.2.2.2.2.1, j3.2.2.2.2.2.2.2.2.2.2.1, j3.2.2.2.2.2.2.2.2.2.2.2.1, j3.2.2.2.2.2.2.2.2.2.2.2.2)) H := hP
    have hD : va_D AA (wM A cc (j2, j3.2.1, j3.2.2.1, j3.2.2.2.1, j3.2.2.2.2.1, j3.2.2.2.2.2.1, j3.2.2.2.2.2.2.1, j3.2.2.2.2.2.2.2.1, j3.2.2.2.2.2.2.2.2.1, j3.2.2.2.2.2.2.2.2.2.1, j3.2.2.2.2.2.2.2.2.2.2.1, j3.2.2.2.2.2.2.2.2.2.2.2.1, j3.2.2.2.2.2.2.2.2.2.2.2.2)) := hD
    refine lv_aload_n hx hb d_M_tweak_39 rfl (lv_at hl 0 rfl) ?_
    refine va_get (D := D) (ci := 3) (v := .int j2) (C := R_M) (T := T_M) (N := 13) hx hb hts in_M hown hK hP 0 rfl rfl 0 (by decide) (hw _ ww_534) (fun _ h9 => h9) rfl d_M_tweak_40 ?_
    refine lv_if_eq hx hb d_M_tweak_43 (tgt := 48) (by decide) (fun h9 => ?_) (fun h9 => ?_)
    · have hF := (if_pos h9).symm.trans hF
      refine lv_iload_n hx hb d_M_tweak_48 rfl (lv_at hl 3 rfl) ?_
      obtain ⟨j7, q9, hF⟩ := Option.bind_eq_some_iff.mp hF
      have k8 : ∀ (H : Heap) (locs : List Loc) (ls : Array Slot), va_P D vwC (wM A cc (j2, j3.2.1, j3.2.2.1, j3.2.2.2.1, j3.2.2.2.2.1, j3.2.2.2.2.2.1, j3.2.2.2.2.2.2.1, j3.2.2.2.2.2.2.2.1, j3.2.2.2.2.2.2.2.2.1, j3.2.2.2.2.2.2.2.2.2.1, j3.2.2.2.2.2.2.2.2.2.2.1, j3.2.2.2.2.2.2.2.2.2.2.2.1, j3.2.2.2.2.2.2.2.2.2.2.2.2)) H → va_D AA (wM A cc (j2, j3.2.1, j3.2.2.1, j3.2.2.2.1, j3.2.2.2.2.1, j3.2.2.2.2.2.1, j3.2.2.2.2.2.2.1, j3.2.2.2.2.2.2.2.1, j3.2.2.2.2.2.2.2.2.1, j3.2.2.2.2.2.2.2.2.2.1, j3.2.2.2.2.2.2.2.2.2.2.1, j3.2.2.2.2.2.2.2.2.2.2.2.1, j3.2.2.2.2.2.2.2.2.2.2.2.2)) → va_S AA s.heap H locs → lv_has ls 6 [(0, .ref (A 0)), (1, .int a0), (2, .int a1), (3, .int a2)] → W p l e rm_M_tweak s m ([Value.ref (A 0), Value.int a0, Value.int a1, Value.int a2] : List Value).toArray below meth c H locs 0 0 (MQ below (va_Ql (fun r u => (r, u) = res) (bw D (wM A cc) (kM cc) AA) AA) ([Value.ref (A 0), Value.int a0, Value.int a1, Value.int a2] : List Value).toArray s 0 0 AA) (F0 m 83 ls [.long j7]) := by
        intro H locs ls hP hD hS hl
        refine lv_lstore hx hb d_M_tweak_83 hl (by decide) (lv' := [(4, .long j7), (0, .ref (A 0)), (1, .int a0), (2, .int a1), (3, .int a2)]) rfl (fun ls hl => ?_)
        refine lv_aload_n hx hb d_M_tweak_85 rfl (lv_at hl 1 rfl) ?_
        refine lv_lload hx hb d_M_tweak_86 (lv_at hl 0 rfl) ?_
        refine lv_ldc2 (v := (-1)) hx hb hown (hw _ ww_533) d_M_tweak_88 ?_
        refine W.lcmp hx hb d_M_tweak_91 ?_
        obtain ⟨j11, q13, hF⟩ := Option.bind_eq_some_iff.mp hF
        have k12 : ∀ (H : Heap) (locs : List Loc) (ls : Array Slot), va_P D vwC (wM A cc (j2, j3.2.1, j3.2.2.1, j3.2.2.2.1, j3.2.2.2.2.1, j3.2.2.2.2.2.1, j3.2.2.2.2.2.2.1, j3.2.2.2.2.2.2.2.1, j3.2.2.2.2.2.2.2.2.1, j3.2.2.2.2.2.2.2.2.2.1, j3.2.2.2.2.2.2.2.2.2.2.1, j3.2.2.2.2.2.2.2.2.2.2.2.1, j3.2.2.2.2.2.2.2.2.2.2.2.2)) H → va_D AA (wM A cc (j2, j3.2.1, j3.2.2.1, j3.2.2.2.1, j3.2.2.2.2.1, j3.2.2.2.2.2.1, j3.2.2.2.2.2.2.1, j3.2.2.2.2.2.2.2.1, j3.2.2.2.2.2.2.2.2.1, j3.2.2.2.2.2.2.2.2.2.1, j3.2.2.2.2.2.2.2.2.2.2.1, j3.2.2.2.2.2.2.2.2.2.2.2.1, j3.2.2.2.2.2.2.2.2.2.2.2.2)) → va_S AA s.heap H locs → lv_has ls 6 [(4, .long j7), (0, .ref (A 0)), (1, .int a0), (2, .int a1), (3, .int a2)] → W p l e rm_M_tweak s m ([Value.ref (A 0), Value.int a0, Value.int a1, Value.int a2] : List Value).toArray below meth c H locs 0 0 (MQ below (va_Ql (fun r u => (r, u) = res) (bw D (wM A cc) (kM cc) AA) AA) ([Value.ref (A 0), Value.int a0, Value.int a1, Value.int a2] : List Value).toArray s 0 0 AA) (F0 m 100 ls [.int j11, .ref (A 0)]) := by
          intro H locs ls hP hD hS hl
          refine va_put (D := D) (ci := 3) (v := .int j11) (ty := .int) (C := R_M) (T := T_M) (N := 13) hx hb hts in_M ft_M ft_M_ok fn_M hown hK hP hD hS 0 rfl rfl 0 (by decide) (hw _ ww_534) (fun _ h9 => h9) rfl (by decide +kernel) rfl rfl (Nat.le_of_ble_eq_true rfl) d_M_tweak_100 (fun H locs hP hD hS => ?_)
          have hP : va_P D vwC (wM A cc (j11, j3.2.1, j3.2.2.1, j3.2.2.2.1, j3.2.2.2.2.1, j3.2.2.2.2.2.1, j3.2.2.2.2.2.2.1, j3.2.2.2.2.2.2.2.1, j3.2.2.2.2.2.2.2.2.1, j3.2.2.2.2.2.2.2.2.2.1, j3.2.2.2.2.2.2.2.2.2.2.1, j3.2.2.2.2.2.2.2.2.2.2.2.1, j3.2.2.2.2.2.2.2.2.2.2.2.2)) H := hP
          have hD : va_D AA (wM A cc (j11, j3.2.1, j3.2.2.1, j3.2.2.2.1, j3.2.2.2.2.1, j3.2.2.2.2.2.1, j3.2.2.2.2.2.2.1, j3.2.2.2.2.2.2.2.1, j3.2.2.2.2.2.2.2.2.1, j3.2.2.2.2.2.2.2.2.2.1, j3.2.2.2.2.2.2.2.2.2.2.1, j3.2.2.2.2.2.2.2.2.2.2.2.1, j3.2.2.2.2.2.2.2.2.2.2.2.2)) := hD
          refine lv_aload_n hx hb d_M_tweak_103 rfl (lv_at hl 1 rfl) ?_
          refine va_get (D := D) (ci := 3) (v := .int j11) (C := R_M) (T := T_M) (N := 13) hx hb hts in_M hown hK hP 0 rfl rfl 0 (by decide) (hw _ ww_534) (fun _ h9 => h9) rfl d_M_tweak_104 ?_
          refine lv_if_eq hx hb d_M_tweak_107 (tgt := 112) (by decide) (fun h9 => ?_) (fun h9 => ?_)
          · have hF := (if_pos h9).symm.trans hF
            refine lv_aload_n hx hb d_M_tweak_112 rfl (lv_at hl 1 rfl) ?_
            refine va_get (D := D) (ci := 3) (v := .ref (A 1)) (C := R_M) (T := T_M) (N := 13) hx hb hts in_M hown hK hP 0 rfl rfl 1 (by decide) (hw _ ww_535) (fun _ h9 => h9) rfl d_M_tweak_113 ?_
            refine lv_iload_n hx hb d_M_tweak_116 rfl (lv_at hl 2 rfl) ?_
            refine lv_lload hx hb d_M_tweak_117 (lv_at hl 0 rfl) ?_
            by_cases h15 : a0 < 0 ∨ 6 ≤ Int32.toNatClampNeg a0
            · have h0 := (if_pos h15).symm.trans hF; cases h0
            have hF := (if_neg h15).symm.trans hF
            refine va_last hx hb hK hP hD hS 1 0 rfl rfl h15 d_M_tweak_119 (fun H locs hP hD hS => ?_)
            have hP : va_P D vwC (wM A cc (j11, (vp_updL j3.2.1 (Int32.toNatClampNeg a0) j7), j3.2.2.1, j3.2.2.2.1, j3.2.2.2.2.1, j3.2.2.2.2.2.1, j3.2.2.2.2.2.2.1, j3.2.2.2.2.2.2.2.1, j3.2.2.2.2.2.2.2.2.1, j3.2.2.2.2.2.2.2.2.2.1, j3.2.2.2.2.2.2.2.2.2.2.1, j3.2.2.2.2.2.2.2.2.2.2.2.1, j3.2.2.2.2.2.2.2.2.2.2.2.2)) H := hP
            have hD : va_D AA (wM A cc (j11, (vp_updL j3.2.1 (Int32.toNatClampNeg a0) j7), j3.2.2.1, j3.2.2.2.1, j3.2.2.2.2.1, j3.2.2.2.2.2.1, j3.2.2.2.2.2.2.1, j3.2.2.2.2.2.2.2.1, j3.2.2.2.2.2.2.2.2.1, j3.2.2.2.2.2.2.2.2.2.1, j3.2.2.2.2.2.2.2.2.2.2.1, j3.2.2.2.2.2.2.2.2.2.2.2.1, j3.2.2.2.2.2.2.2.2.2.2.2.2)) := hD
            refine lv_aload_n hx hb d_M_tweak_120 rfl (lv_at hl 1 rfl) ?_
            refine va_get (D := D) (ci := 3) (v := .ref (A 2)) (C := R_M) (T := T_M) (N := 13) hx hb hts in_M hown hK hP 0 rfl rfl 2 (by decide) (hw _ ww_536) (fun _ h9 => h9) rfl d_M_tweak_121 ?_
            refine lv_iload_n hx hb d_M_tweak_124 rfl (lv_at hl 2 rfl) ?_
            by_cases h16 : a0 < 0 ∨ 6 ≤ Int32.toNatClampNeg a0
            · have h0 := (if_pos h16).symm.trans hF; cases h0
            have hF := (if_neg h16).symm.trans hF
            refine va_lald hx hb hK hP 2 1 rfl rfl h16 d_M_tweak_125 ?_
            refine lv_lconst (v := 0) hx hb d_M_tweak_126 (by decide) ?_
            refine W.lcmp hx hb d_M_tweak_127 ?_
            obtain ⟨j17, q19, hF⟩ := Option.bind_eq_some_iff.mp hF
            have k18 : ∀ (H : Heap) (locs : List Loc) (ls : Array Slot), va_P D vwC (wM A cc j17) H → va_D AA (wM A cc j17) → va_S AA s.heap H locs → lv_has ls 6 [(4, .long j7)] → W p l e rm_M_tweak s m ([Value.ref (A 0), Value.int a0, Value.int a1, Value.int a2] : List Value).toArray below meth c H locs 0 0 (MQ below (va_Ql (fun r u => (r, u) = res) (bw D (wM A cc) (kM cc) AA) AA) ([Value.ref (A 0), Value.int a0, Value.int a1, Value.int a2] : List Value).toArray s 0 0 AA) (F0 m 170 ls []) := by
              intro H locs ls hP hD hS hl
              refine lv_lload hx hb d_M_tweak_170 (lv_at hl 0 rfl) ?_
              obtain ⟨r21, e_r21, hF⟩ := Option.bind_eq_some_iff.mp hF
              refine vp_callSl (va_runS (As := [.long j7]) (rest := []) ⟨hx, hb, hml, hown, hts⟩ (k_M_codeOf l j7 r21 e_r21) (va_cwS 1 hts (ga_S ww_615 ww_616 ww_4 ww_617) rfl rfl rfl (by decide +kernel) ⟨by decide, by decide⟩) (pcs_pre hN) rfl rfl hl.1 rfl (lv_room (Nat.le_of_ble_eq_true rfl)) d_M_tweak_172 ⟨Nat.zero_le _, Nat.zero_le _⟩).run (fun z9 hz9 => ?_)
              obtain rfl : r21 = z9 := hz9.symm
              obtain rfl := Option.some.inj hF
              exact W.lret hx hb hr (fun t ht hW => ⟨⟨_, _, rfl, rfl, bw_end hP hK hD ht hW⟩, hS.F ht⟩) hS.2.2 d_M_tweak_175
            clear hF
            have hF := q19
            refine lv_if_le hx hb d_M_tweak_128 (tgt := 170) (by decide) (fun h9 => ?_) (fun h9 => ?_)
            · have hF := (if_pos h9).symm.trans hF
              obtain rfl := Option.some.inj hF
              exact k18 _ _ ls hP hD hS (lv_sub hl [0] rfl)
            · have hF := (if_neg h9).symm.trans hF
              refine lv_aload_n hx hb d_M_tweak_131 rfl (lv_at hl 1 rfl) ?_
              refine va_get (D := D) (ci := 3) (v := .ref (A 2)) (C := R_M) (T := T_M) (N := 13) hx hb hts in_M hown hK hP 0 rfl rfl 2 (by decide) (hw _ ww_536) (fun _ h9 => h9) rfl d_M_tweak_132 ?_
              refine lv_iload_n hx hb d_M_tweak_135 rfl (lv_at hl 2 rfl) ?_
              refine lv_iload_n hx hb d_M_tweak_136 rfl (lv_at hl 4 rfl) ?_
              obtain ⟨j22, q24, hF⟩ := Option.bind_eq_some_iff.mp hF
              have k23 : ∀ (H : Heap) (locs : List Loc) (ls : Array Slot), va_P D vwC (wM A cc (j11, (vp_updL j3.2.1 (Int32.toNatClampNeg a0) j7), j3.2.2.1, j3.2.2.2.1, j3.2.2.2.2.1, j3.2.2.2.2.2.1, j3.2.2.2.2.2.2.1, j3.2.2.2.2.2.2.2.1, j3.2.2.2.2.2.2.2.2.1, j3.2.2.2.2.2.2.2.2.2.1, j3.2.2.2.2.2.2.2.2.2.2.1, j3.2.2.2.2.2.2.2.2.2.2.2.1, j3.2.2.2.2.2.2.2.2.2.2.2.2)) H → va_D AA (wM A cc (j11, (vp_updL j3.2.1 (Int32.toNatClampNeg a0) j7), j3.2.2.1, j3.2.2.2.1, j3.2.2.2.2.1, j3.2.2.2.2.2.1, j3.2.2.2.2.2.2.1, j3.2.2.2.2.2.2.2.1, j3.2.2.2.2.2.2.2.2.1, j3.2.2.2.2.2.2.2.2.2.1, j3.2.2.2.2.2.2.2.2.2.2.1, j3.2.2.2.2.2.2.2.2.2.2.2.1, j3.2.2.2.2.2.2.2.2.2.2.2.2)) → va_S AA s.heap H locs → lv_has ls 6 [(4, .long j7)] → W p l e rm_M_tweak s m ([Value.ref (A 0), Value.int a0, Value.int a1, Value.int a2] : List Value).toArray below meth c H locs 0 0 (MQ below (va_Ql (fun r u => (r, u) = res) (bw D (wM A cc) (kM cc) AA) AA) ([Value.ref (A 0), Value.int a0, Value.int a1, Value.int a2] : List Value).toArray s 0 0 AA) (F0 m 169 ls [.long j22, .int a0, .ref (A 2)]) := by
                intro H locs ls hP hD hS hl
                by_cases h26 : a0 < 0 ∨ 6 ≤ Int32.toNatClampNeg a0
                · have h0 := (if_pos h26).symm.trans hF; cases h0
                have hF := (if_neg h26).symm.trans hF
                refine va_last hx hb hK hP hD hS 2 1 rfl rfl h26 d_M_tweak_169 (fun H locs hP hD hS => ?_)
                have hP : va_P D vwC (wM A cc (j11, (vp_updL j3.2.1 (Int32.toNatClampNeg a0) j7), (vp_updL j3.2.2.1 (Int32.toNatClampNeg a0) j22), j3.2.2.2.1, j3.2.2.2.2.1, j3.2.2.2.2.2.1, j3.2.2.2.2.2.2.1, j3.2.2.2.2.2.2.2.1, j3.2.2.2.2.2.2.2.2.1, j3.2.2.2.2.2.2.2.2.2.1, j3.2.2.2.2.2.2.2.2.2.2.1, j3.2.2.2.2.2.2.2.2.2.2.2.1, j3.2.2.2.2.2.2.2.2.2.2.2.2)) H := hP
                have hD : va_D AA (wM A cc (j11, (vp_updL j3.2.1 (Int32.toNatClampNeg a0) j7), (vp_updL j3.2.2.1 (Int32.toNatClampNeg a0) j22), j3.2.2.2.1, j3.2.2.2.2.1, j3.2.2.2.2.2.1, j3.2.2.2.2.2.2.1, j3.2.2.2.2.2.2.2.1, j3.2.2.2.2.2.2.2.2.1, j3.2.2.2.2.2.2.2.2.2.1, j3.2.2.2.2.2.2.2.2.2.2.1, j3.2.2.2.2.2.2.2.2.2.2.2.1, j3.2.2.2.2.2.2.2.2.2.2.2.2)) := hD
                obtain rfl := Option.some.inj hF
                exact k18 _ _ ls hP hD hS (lv_sub hl [0] rfl)
              clear hF
              have hF := q24
              refine lv_if_eq hx hb d_M_tweak_137 (tgt := 156) (by decide) (fun h9 => ?_) (fun h9 => ?_)
              · have hF := (if_pos h9).symm.trans hF
                refine lv_aload_n hx hb d_M_tweak_156 rfl (lv_at hl 1 rfl) ?_
                refine va_get (D := D) (ci := 3) (v := .ref (A 2)) (C := R_M) (T := T_M) (N := 13) hx hb hts in_M hown hK hP 0 rfl rfl 2 (by decide) (hw _ ww_536) (fun _ h9 => h9) rfl d_M_tweak_157 ?_
                refine lv_iload_n hx hb d_M_tweak_160 rfl (lv_at hl 2 rfl) ?_
                by_cases h27 : a0 < 0 ∨ 6 ≤ Int32.toNatClampNeg a0
                · have h0 := (if_pos h27).symm.trans hF; cases h0
                have hF := (if_neg h27).symm.trans hF
                refine va_lald hx hb hK hP 2 1 rfl rfl h27 d_M_tweak_161 ?_
                refine lv_iload_n hx hb d_M_tweak_162 rfl (lv_at hl 3 rfl) ?_
                refine lv_i2l (v := Int32.toInt64 a1) hx hb d_M_tweak_163 rfl ?_
                refine lv_ladd hx hb d_M_tweak_164 ?_
                refine lv_ldc2 (v := 1073729077) hx hb hown (hw _ ww_585) d_M_tweak_165 ?_
                refine lv_lrem hx hb d_M_tweak_168 (by decide) ?_
                obtain rfl := Option.some.inj hF
                exact k23 _ _ ls hP hD hS (lv_sub hl [0] rfl)
              · have hF := (if_neg h9).symm.trans hF
                refine lv_aload_n hx hb d_M_tweak_140 rfl (lv_at hl 1 rfl) ?_
                refine va_get (D := D) (ci := 3) (v := .ref (A 2)) (C := R_M) (T := T_M) (N := 13) hx hb hts in_M hown hK hP 0 rfl rfl 2 (by decide) (hw _ ww_536) (fun _ h9 => h9) rfl d_M_tweak_141 ?_
                refine lv_iload_n hx hb d_M_tweak_144 rfl (lv_at hl 2 rfl) ?_
                by_cases h28 : a0 < 0 ∨ 6 ≤ Int32.toNatClampNeg a0
                · have h0 := (if_pos h28).symm.trans hF; cases h0
                have hF := (if_neg h28).symm.trans hF
                refine va_lald hx hb hK hP 2 1 rfl rfl h28 d_M_tweak_145 ?_
                refine lv_iload_n hx hb d_M_tweak_146 rfl (lv_at hl 3 rfl) ?_
                refine lv_i2l (v := Int32.toInt64 a1) hx hb d_M_tweak_147 rfl ?_
                refine lv_lmul hx hb d_M_tweak_148 ?_
                refine lv_ldc2 (v := 1073729077) hx hb hown (hw _ ww_585) d_M_tweak_149 ?_
                refine lv_lrem hx hb d_M_tweak_152 (by decide) ?_
                refine lv_goto hx hb d_M_tweak_153 (tgt := 169) (by decide) ?_
                obtain rfl := Option.some.inj hF
                exact k23 _ _ ls hP hD hS (lv_sub hl [0] rfl)
          · have hF := (if_neg h9).symm.trans hF
            refine lv_lconst (v := 0) hx hb d_M_tweak_110 (by decide) ?_
            obtain rfl := Option.some.inj hF
            exact W.lret hx hb hr (fun t ht hW => ⟨⟨_, _, rfl, rfl, bw_end hP hK hD ht hW⟩, hS.F ht⟩) hS.2.2 d_M_tweak_111
        clear hF
        have hF := q13
        refine lv_if_ne hx hb d_M_tweak_92 (tgt := 99) (by decide) (fun h9 => ?_) (fun h9 => ?_)
        · have hF := (if_neg h9).symm.trans hF
          refine lv_iconst (v := 0) hx hb d_M_tweak_99 (by decide) ?_
          obtain rfl := Option.some.inj hF
          exact k12 _ _ ls hP hD hS (lv_sub hl [0, 1, 2, 3, 4] rfl)
        · have hF := (if_pos h9).symm.trans hF
          refine lv_iconst (v := 3) hx hb d_M_tweak_95 (by decide) ?_
          refine lv_goto hx hb d_M_tweak_96 (tgt := 100) (by decide) ?_
          obtain rfl := Option.some.inj hF
          exact k12 _ _ ls hP hD hS (lv_sub hl [0, 1, 2, 3, 4] rfl)
      clear hF
      have hF := q9
      refine lv_if_eq hx hb d_M_tweak_49 (tgt := 66) (by decide) (fun h9 => ?_) (fun h9 => ?_)
      · have hF := (if_pos h9).symm.trans hF
        refine lv_aload_n hx hb d_M_tweak_66 rfl (lv_at hl 0 rfl) ?_
        refine va_get (D := D) (ci := 3) (v := .ref (A 1)) (C := R_M) (T := T_M) (N := 13) hx hb hts in_M hown hK hP 0 rfl rfl 1 (by decide) (hw _ ww_535) (fun _ h9 => h9) rfl d_M_tweak_67 ?_
        refine lv_iload_n hx hb d_M_tweak_70 rfl (lv_at hl 1 rfl) ?_
        by_cases h29 : a0 < 0 ∨ 6 ≤ Int32.toNatClampNeg a0
        · have h0 := (if_pos h29).symm.trans hF; cases h0
        have hF := (if_neg h29).symm.trans hF
        refine va_lald hx hb hK hP 1 0 rfl rfl h29 d_M_tweak_71 ?_
        refine lv_iload_n hx hb d_M_tweak_72 rfl (lv_at hl 2 rfl) ?_
        refine lv_i2l (v := Int32.toInt64 a1) hx hb d_M_tweak_73 rfl ?_
        obtain ⟨r30, e_r30, hF⟩ := Option.bind_eq_some_iff.mp hF
        refine vp_callSl (va_runS (As := []) (rest := [.long (Int32.toInt64 a1), .long (j3.2.1 (Int32.toNatClampNeg a0))]) ⟨hx, hb, hml, hown, hts⟩ (k_M_g l  r30 e_r30) (va_cwS 0 hts (ga_S ww_586 ww_587 ww_4 ww_588) rfl rfl rfl (by decide +kernel) ⟨by decide, by decide⟩) (pcs_pre hN) rfl rfl hl.1 rfl (lv_room (Nat.le_of_ble_eq_true rfl)) d_M_tweak_74 ⟨Nat.zero_le _, Nat.zero_le _⟩).run (fun z9 hz9 => ?_)
        obtain rfl : r30 = z9 := hz9.symm
        obtain ⟨r31, e_r31, hF⟩ := Option.bind_eq_some_iff.mp hF
        refine vp_callSl (va_runS (As := [.long (Int32.toInt64 a1), .long r30]) (rest := [.long (j3.2.1 (Int32.toNatClampNeg a0))]) ⟨hx, hb, hml, hown, hts⟩ (k_M_times l (Int32.toInt64 a1) r30 r31 e_r31) (va_cwS 2 hts (ga_S ww_590 ww_591 ww_4 ww_592) rfl rfl rfl (by decide +kernel) ⟨by decide, by decide⟩) (pcs_pre hN) rfl rfl hl.1 rfl (lv_room (Nat.le_of_ble_eq_true rfl)) d_M_tweak_77 ⟨Nat.zero_le _, Nat.zero_le _⟩).run (fun z9 hz9 => ?_)
        obtain rfl : r31 = z9 := hz9.symm
        obtain ⟨r32, e_r32, hF⟩ := Option.bind_eq_some_iff.mp hF
        refine vp_callSl (va_runS (As := [.long (j3.2.1 (Int32.toNatClampNeg a0)), .long r31]) (rest := []) ⟨hx, hb, hml, hown, hts⟩ (k_M_sum l (j3.2.1 (Int32.toNatClampNeg a0)) r31 r32 e_r32) (va_cwS 2 hts (ga_S ww_594 ww_595 ww_4 ww_596) rfl rfl rfl (by decide +kernel) ⟨by decide, by decide⟩) (pcs_pre hN) rfl rfl hl.1 rfl (lv_room (Nat.le_of_ble_eq_true rfl)) d_M_tweak_80 ⟨Nat.zero_le _, Nat.zero_le _⟩).run (fun z9 hz9 => ?_)
        obtain rfl : r32 = z9 := hz9.symm
        obtain rfl := Option.some.inj hF
        exact k8 _ _ ls hP hD hS (lv_sub hl [0, 1, 2, 3] rfl)
      · have hF := (if_neg h9).symm.trans hF
        refine lv_iload_n hx hb d_M_tweak_52 rfl (lv_at hl 2 rfl) ?_
        refine lv_i2l (v := Int32.toInt64 a1) hx hb d_M_tweak_53 rfl ?_
        refine lv_aload_n hx hb d_M_tweak_54 rfl (lv_at hl 0 rfl) ?_
        refine va_get (D := D) (ci := 3) (v := .ref (A 1)) (C := R_M) (T := T_M) (N := 13) hx hb hts in_M hown hK hP 0 rfl rfl 1 (by decide) (hw _ ww_535) (fun _ h9 => h9) rfl d_M_tweak_55 ?_
        refine lv_iload_n hx hb d_M_tweak_58 rfl (lv_at hl 1 rfl) ?_
        by_cases h33 : a0 < 0 ∨ 6 ≤ Int32.toNatClampNeg a0
        · have h0 := (if_pos h33).symm.trans hF; cases h0
        have hF := (if_neg h33).symm.trans hF
        refine va_lald hx hb hK hP 1 0 rfl rfl h33 d_M_tweak_59 ?_
        obtain ⟨r34, e_r34, hF⟩ := Option.bind_eq_some_iff.mp hF
        refine vp_callSl (va_runS (As := [.long (Int32.toInt64 a1), .long (j3.2.1 (Int32.toNatClampNeg a0))]) (rest := []) ⟨hx, hb, hml, hown, hts⟩ (k_M_times l (Int32.toInt64 a1) (j3.2.1 (Int32.toNatClampNeg a0)) r34 e_r34) (va_cwS 2 hts (ga_S ww_590 ww_591 ww_4 ww_592) rfl rfl rfl (by decide +kernel) ⟨by decide, by decide⟩) (pcs_pre hN) rfl rfl hl.1 rfl (lv_room (Nat.le_of_ble_eq_true rfl)) d_M_tweak_60 ⟨Nat.zero_le _, Nat.zero_le _⟩).run (fun z9 hz9 => ?_)
        obtain rfl : r34 = z9 := hz9.symm
        refine lv_goto hx hb d_M_tweak_63 (tgt := 83) (by decide) ?_
        obtain rfl := Option.some.inj hF
        exact k8 _ _ ls hP hD hS (lv_sub hl [0, 1, 2, 3] rfl)
    · have hF := (if_neg h9).symm.trans hF
      refine lv_lconst (v := 0) hx hb d_M_tweak_46 (by decide) ?_
      obtain rfl := Option.some.inj hF
      exact W.lret hx hb hr (fun t ht hW => ⟨⟨_, _, rfl, rfl, bw_end hP hK hD ht hW⟩, hS.F ht⟩) hS.2.2 d_M_tweak_47
  clear hF
  have hF := q5
  refine lv_if_ne hx hb d_M_tweak_5 (tgt := 12) (by decide) (fun h9 => ?_) (fun h9 => ?_)
  · have hF := (if_neg h9).symm.trans hF
    refine lv_aload_n hx hb d_M_tweak_12 rfl (lv_at hl 0 rfl) ?_
    refine lv_iload_n hx hb d_M_tweak_13 rfl (lv_at hl 1 rfl) ?_
    obtain ⟨⟨r36, g35⟩, e_g35, hF⟩ := Option.bind_eq_some_iff.mp hF
    have hFc := va_free (wc := wM A cc g0) hD hS hA [0, 1, 2, 3, 4, 5, 6, 7, 8] rfl
    refine va_calli (va_runV (As := [.int a0]) (rest := [.ref (A 0)]) ⟨hx, hb, hml, hown, hts⟩ (k_M_full l D A cc g0 a0 _ (r36, g35) e_g35) (cwV 1 hts (ga_V ww_647 ww_649 wp_8 ww_4 ww_650) rfl rfl rfl (by decide +kernel) ⟨by decide, by decide⟩) (pw_pre (q0 := 0) (ci := 3) hP hK hD hN rfl rfl) rfl rfl hl.1 rfl (lv_room (Nat.le_of_ble_eq_true rfl)) d_M_tweak_14 ⟨Nat.zero_le _, Nat.zero_le _⟩) hS (fun q _ h => hFc q h) hFc (fun r9 u9 t H locs ht hvm hp hB hz1 hk1 hS => ?_)
    obtain ⟨rfl, rfl⟩ := Prod.mk.inj hp.symm
    obtain ⟨hP, hD⟩ := bw_back hB ht hFc
    refine lv_if_ne hx hb d_M_tweak_17 (tgt := 24) (by decide) (fun h9 => ?_) (fun h9 => ?_)
    · have hF := (if_neg h9).symm.trans hF
      refine lv_iload_n hx hb d_M_tweak_24 rfl (lv_at hl 2 rfl) ?_
      obtain ⟨r38, e_r38, hF⟩ := Option.bind_eq_some_iff.mp hF
      refine vp_callSi (va_runS (As := [.int a1]) (rest := [.ref (A 0)]) ⟨hx, hb, hml, hown, hts⟩ (k_M_isScalar l a1 r38 e_r38) (va_cwS 1 hts (ga_S ww_651 ww_652 ww_4 ww_653) rfl rfl rfl (by decide +kernel) ⟨by decide, by decide⟩) (pcs_pre hN) rfl rfl hl.1 rfl (lv_room (Nat.le_of_ble_eq_true rfl)) d_M_tweak_25 ⟨Nat.zero_le _, Nat.zero_le _⟩).run (fun z9 hz9 => ?_)
      obtain rfl : r38 = z9 := hz9.symm
      refine lv_if_ne hx hb d_M_tweak_28 (tgt := 35) (by decide) (fun h9 => ?_) (fun h9 => ?_)
      · have hF := (if_neg h9).symm.trans hF
        refine lv_iconst (v := 0) hx hb d_M_tweak_35 (by decide) ?_
        cases Option.some.inj hF
        exact k4 _ _ ls hP hD hS (lv_sub hl [0, 1, 2, 3] rfl)
      · have hF := (if_pos h9).symm.trans hF
        refine lv_iconst (v := 3) hx hb d_M_tweak_31 (by decide) ?_
        refine lv_goto hx hb d_M_tweak_32 (tgt := 36) (by decide) ?_
        cases Option.some.inj hF
        exact k4 _ _ ls hP hD hS (lv_sub hl [0, 1, 2, 3] rfl)
    · have hF := (if_pos h9).symm.trans hF
      refine lv_iconst (v := 2) hx hb d_M_tweak_20 (by decide) ?_
      refine lv_goto hx hb d_M_tweak_21 (tgt := 36) (by decide) ?_
      cases Option.some.inj hF
      exact k4 _ _ ls hP hD hS (lv_sub hl [0, 1, 2, 3] rfl)
  · have hF := (if_pos h9).symm.trans hF
    refine lv_iconst (v := 1) hx hb d_M_tweak_8 (by decide) ?_
    refine lv_goto hx hb d_M_tweak_9 (tgt := 36) (by decide) ?_
    cases Option.some.inj hF
    exact k4 _ _ ls hP hD hS (lv_sub hl [0, 1, 2, 3] rfl)
def f_M_combine (g0 : sM) (a0 : Int32) (a1 : Int32) (a2 : Int32) : Option (Int64 × sM) := Option.bind (f_M_isSlot a0) (fun r1 => Option.bind (if r1 = 0 then (some (1, g0) : Option (Int32 × sM)) else (Option.bind (f_M_isSlot a1) (fun r13 => if r13 = 0 then (some (1, g0)) else (Option.bind (f_M_isSlot a2) (fun r14 => if r14 = 0 then (some (1, g0)) else (Option.bind (f_M_full g0 a1) (fun t17 => match t17 with | (r16, g15) => (if r16 = 0 then (some (2, g15)) else (Option.bind (f_M_full g15 a2) (fun t20 => match t20 with | (r19, g18) => (if r19 = 0 then (some (2, g18)) else (if a1 < 0 ∨ 6 ≤ Int32.toNatClampNeg a1 then none else (if a2 < 0 ∨ 6 ≤ Int32.toNatClampNeg a2 then none else (Option.bind (f_M_sum (g18.2.1 (Int32.toNatClampNeg a1)) (g18.2.1 (Int32.toNatClampNeg a2))) (fun r23 => if (lg_cmp r23 (-1)) = 0 then (some (3, g18)) else (some (0, g18))))))))))))))))) (fun t6 => match t6 with | (j2, j3) => (if j2 = 0 then (if a1 < 0 ∨ 6 ≤ Int32.toNatClampNeg a1 then none else (if a2 < 0 ∨ 6 ≤ Int32.toNatClampNeg a2 then none else (Option.bind (f_M_sum (j3.2.1 (Int32.toNatClampNeg a1)) (j3.2.1 (Int32.toNatClampNeg a2))) (fun r9 => Option.bind (f_M_lay (j2, j3.2.1, j3.2.2.1, j3.2.2.2.1, j3.2.2.2.2.1, j3.2.2.2.2.2.1, j3.2.2.2.2.2.2.1, j3.2.2.2.2.2.2.2.1, j3.2.2.2.2.2.2.2.2.1, j3.2.2.2.2.2.2.2.2.2.1, j3.2.2.2.2.2.2.2.2.2.2.1, j3.2.2.2.2.2.2.2.2.2.2.2.1, j3.2.2.2.2.2.2.2.2.2.2.2.2) a0 r9) (fun g10 => if a0 < 0 ∨ 6 ≤ Int32.toNatClampNeg a0 then none else (Option.bind (f_M_codeOf (g10.2.1 (Int32.toNatClampNeg a0))) (fun r12 => some (r12, g10)))))))) else (some (0, (j2, j3.2.1, j3.2.2.1, j3.2.2.2.1, j3.2.2.2.2.1, j3.2.2.2.2.2.1, j3.2.2.2.2.2.2.1, j3.2.2.2.2.2.2.2.1, j3.2.2.2.2.2.2.2.2.1, j3.2.2.2.2.2.2.2.2.2.1, j3.2.2.2.2.2.2.2.2.2.2.1, j3.2.2.2.2.2.2.2.2.2.2.2.1, j3.2.2.2.2.2.2.2.2.2.2.2.2))))))
abbrev rm_M_combine : Room := { frames := 4, cells := 0, slots := 0, locals := 118 }
set_option maxHeartbeats 4000000 in
set_option maxRecDepth 100000 in
theorem k_M_combine (l : Launch) (D : va_G) (A : Nat → Nat) (cc : Nat → ClassId) (g0 : sM) (a0 : Int32) (a1 : Int32) (a2 : Int32) (sz : Nat) (res : (Int64 × sM)) (hF : f_M_combine g0 a0 a1 a2 = some res) : Met l y_M_combine (Cond.code y_M_combine b_M_combine 4 (some .long) :: wa) rm_M_combine (pw D (wM A cc g0) (kM cc) [.ref (A 0), .int a0, .int a1, .int a2] sz) (va_Ql (fun r u => (r, u) = res) (bw D (wM A cc) (kM cc) (va_A (wM A cc g0) sz)) (va_A (wM A cc g0) sz)) 0 0 (va_A (wM A cc g0) sz) := by
  refine Met.ofW (cc := b_M_combine) (maxL := 4) (ret := (some .long)) (by decide) rfl ?_
  intro p e s m args below meth c s₁ B hml hv
  obtain ⟨rfl, hsz, hP, hK, hD0, hN⟩ := hv
  have hx := B.exec
  have hb := B.bytes
  have hr := B.returns
  have hts := atoms_spec (ws := Cond.code y_M_combine b_M_combine 4 (some .long) :: wa) B.pre
  have hw : ∀ w ∈ wa, w.before _ s = true := fun w h => hts w (List.mem_cons_of_mem _ h)
  have hown : s.vm.findClass R_M = some m.cls := findClass_of_methodNamed B.named
  have hlocks := B.notSynchronized
  subst hsz
  have hD := hD0.self (sz := s.heap.size)
  generalize hAe : va_A (wM A cc g0) s.heap.size = AA at hD ⊢
  have hA : ∀ q : Nat, s.heap.size ≤ q → AA q := fun q h => by rw [← hAe]; exact Or.inr h
  have hS : va_S AA s.heap s.heap [] := va_S.rf
  have hl := lv_entry ([.ref (A 0), .int a0, .int a1, .int a2]) (n := 4) (Nat.le_of_ble_eq_true rfl)
  rw [lg_entry_eq]
  generalize (lg_sl ([.ref (A 0), .int a0, .int a1, .int a2]) ++ List.replicate (4 - (lg_sl ([.ref (A 0), .int a0, .int a1, .int a2])).length) Slot.unset).toArray = ls at hl ⊢
  have hl : lv_has ls 4 [(0, .ref (A 0)), (1, .int a0), (2, .int a1), (3, .int a2)] := hl
  unfold f_M_combine at hF
  refine lv_aload_n hx hb d_M_combine_0 rfl (lv_at hl 0 rfl) ?_
  refine lv_iload_n hx hb d_M_combine_1 rfl (lv_at hl 1 rfl) ?_
  obtain ⟨r1, e_r1, hF⟩ := Option.bind_eq_some_iff.mp hF
  refine vp_callSi (va_runS (As := [.int a0]) (rest := [.ref (A 0)]) ⟨hx, hb, hml, hown, hts⟩ (k_M_isSlot l a0 r1 e_r1) (va_cwS 1 hts (ga_S ww_582 ww_583 ww_4 ww_584) rfl rfl rfl (by decide +kernel) ⟨by decide, by decide⟩) (pcs_pre hN) rfl rfl hl.1 rfl (lv_room (Nat.le_of_ble_eq_true rfl)) d_M_combine_2 ⟨Nat.zero_le _, Nat.zero_le _⟩).run (fun z9 hz9 => ?_)
  obtain rfl : r1 = z9 := hz9.symm
  obtain ⟨⟨j2, j3⟩, q5, hF⟩ := Option.bind_eq_some_iff.mp hF
  have k4 : ∀ (H : Heap) (locs : List Loc) (ls : Array Slot), va_P D vwC (wM A cc j3) H → va_D AA (wM A cc j3) → va_S AA s.heap H locs → lv_has ls 4 [(0, .ref (A 0)), (1, .int a0), (2, .int a1), (3, .int a2)] → W p l e rm_M_combine s m ([Value.ref (A 0), Value.int a0, Value.int a1, Value.int a2] : List Value).toArray below meth c H locs 0 0 (MQ below (va_Ql (fun r u => (r, u) = res) (bw D (wM A cc) (kM cc) AA) AA) ([Value.ref (A 0), Value.int a0, Value.int a1, Value.int a2] : List Value).toArray s 0 0 AA) (F0 m 73 ls [.int j2, .ref (A 0)]) := by
    intro H locs ls hP hD hS hl
    refine va_put (D := D) (ci := 3) (v := .int j2) (ty := .int) (C := R_M) (T := T_M) (N := 13) hx hb hts in_M ft_M ft_M_ok fn_M hown hK hP hD hS 0 rfl rfl 0 (by decide) (hw _ ww_534) (fun _ h9 => h9) rfl (by decide +kernel) rfl rfl (Nat.le_of_ble_eq_true rfl) d_M_combine_73 (fun H locs hP hD hS => ?_)
    have hP : va_P D vwC (wM A cc (j2, j3.2.1, j3.2.2.1, j3.2.2.2.1, j3.2.2.2.2.1, j3.2.2.2.2.2.1, j3.2.2.2.2.2.2.1, j3.2.2.2.2.2.2.2.1, j3.2.2.2.2.2.2.2.2.1, j3.2.2.2.2.2.2.2.2.2.1, j3.2.2.2.2.2.2.2.2.2.2.1, j3.2.2.2.2.2.2.2.2.2.2.2.1, j3.2.2.2.2.2.2.2.2.2.2.2.2)) H := hP
    have hD : va_D AA (wM A cc (j2, j3.2.1, j3.2.2.1, j3.2.2.2.1, j3.2.2.2.2.1, j3.2.2.2.2.2.1, j3.2.2.2.2.2.2.1, j3.2.2.2.2.2.2.2.1, j3.2.2.2.2.2.2.2.2.1, j3.2.2.2.2.2.2.2.2.2.1, j3.2.2.2.2.2.2.2.2.2.2.1, j3.2.2.2.2.2.2.2.2.2.2.2.1, j3.2.2.2.2.2.2.2.2.2.2.2.2)) := hD
    refine lv_aload_n hx hb d_M_combine_76 rfl (lv_at hl 0 rfl) ?_
    refine va_get (D := D) (ci := 3) (v := .int j2) (C := R_M) (T := T_M) (N := 13) hx hb hts in_M hown hK hP 0 rfl rfl 0 (by decide) (hw _ ww_534) (fun _ h9 => h9) rfl d_M_combine_77 ?_
    refine lv_if_eq hx hb d_M_combine_80 (tgt := 85) (by decide) (fun h9 => ?_) (fun h9 => ?_)
    · have hF := (if_pos h9).symm.trans hF
      refine lv_aload_n hx hb d_M_combine_85 rfl (lv_at hl 0 rfl) ?_
      refine lv_iload_n hx hb d_M_combine_86 rfl (lv_at hl 1 rfl) ?_
      refine lv_aload_n hx hb d_M_combine_87 rfl (lv_at hl 0 rfl) ?_
      refine va_get (D := D) (ci := 3) (v := .ref (A 1)) (C := R_M) (T := T_M) (N := 13) hx hb hts in_M hown hK hP 0 rfl rfl 1 (by decide) (hw _ ww_535) (fun _ h9 => h9) rfl d_M_combine_88 ?_
      refine lv_iload_n hx hb d_M_combine_91 rfl (lv_at hl 2 rfl) ?_
      by_cases h7 : a1 < 0 ∨ 6 ≤ Int32.toNatClampNeg a1
      · have h0 := (if_pos h7).symm.trans hF; cases h0
      have hF := (if_neg h7).symm.trans hF
      refine va_lald hx hb hK hP 1 0 rfl rfl h7 d_M_combine_92 ?_
      refine lv_aload_n hx hb d_M_combine_93 rfl (lv_at hl 0 rfl) ?_
      refine va_get (D := D) (ci := 3) (v := .ref (A 1)) (C := R_M) (T := T_M) (N := 13) hx hb hts in_M hown hK hP 0 rfl rfl 1 (by decide) (hw _ ww_535) (fun _ h9 => h9) rfl d_M_combine_94 ?_
      refine lv_iload_n hx hb d_M_combine_97 rfl (lv_at hl 3 rfl) ?_
      by_cases h8 : a2 < 0 ∨ 6 ≤ Int32.toNatClampNeg a2
      · have h0 := (if_pos h8).symm.trans hF; cases h0
      have hF := (if_neg h8).symm.trans hF
      refine va_lald hx hb hK hP 1 0 rfl rfl h8 d_M_combine_98 ?_
      obtain ⟨r9, e_r9, hF⟩ := Option.bind_eq_some_iff.mp hF
      refine vp_callSl (va_runS (As := [.long (j3.2.1 (Int32.toNatClampNeg a1)), .long (j3.2.1 (Int32.toNatClampNeg a2))]) (rest := [.int a0, .ref (A 0)]) ⟨hx, hb, hml, hown, hts⟩ (k_M_sum l (j3.2.1 (Int32.toNatClampNeg a1)) (j3.2.1 (Int32.toNatClampNeg a2)) r9 e_r9) (va_cwS 2 hts (ga_S ww_594 ww_595 ww_4 ww_596) rfl rfl rfl (by decide +kernel) ⟨by decide, by decide⟩) (pcs_pre hN) rfl rfl hl.1 rfl (lv_room (Nat.le_of_ble_eq_true rfl)) d_M_combine_99 ⟨Nat.zero_le _, Nat.zero_le _⟩).run (fun z9 hz9 => ?_)
      obtain rfl : r9 = z9 := hz9.symm
      obtain ⟨g10, e_g10, hF⟩ := Option.bind_eq_some_iff.mp hF
      have hFc := va_free (wc := wM A cc (j2, j3.2.1, j3.2.2.1, j3.2.2.2.1, j3.2.2.2.2.1, j3.2.2.2.2.2.1, j3.2.2.2.2.2.2.1, j3.2.2.2.2.2.2.2.1, j3.2.2.2.2.2.2.2.2.1, j3.2.2.2.2.2.2.2.2.2.1, j3.2.2.2.2.2.2.2.2.2.2.1, j3.2.2.2.2.2.2.2.2.2.2.2.1, j3.2.2.2.2.2.2.2.2.2.2.2.2)) hD hS hA [0, 1, 2, 3, 4, 5, 6, 7, 8] rfl
      refine va_callv (va_runV (As := [.int a0, .long r9]) (rest := []) ⟨hx, hb, hml, hown, hts⟩ (k_M_lay l D A cc (j2, j3.2.1, j3.2.2.1, j3.2.2.2.1, j3.2.2.2.2.1, j3.2.2.2.2.2.1, j3.2.2.2.2.2.2.1, j3.2.2.2.2.2.2.2.1, j3.2.2.2.2.2.2.2.2.1, j3.2.2.2.2.2.2.2.2.2.1, j3.2.2.2.2.2.2.2.2.2.2.1, j3.2.2.2.2.2.2.2.2.2.2.2.1, j3.2.2.2.2.2.2.2.2.2.2.2.2) a0 r9 _ g10 e_g10) (cwV 2 hts (ga_V ww_631 ww_633 wp_7 ww_4 ww_634) rfl rfl rfl (by decide +kernel) ⟨by decide, by decide⟩) (pw_pre (q0 := 0) (ci := 3) hP hK hD hN rfl rfl) rfl rfl hl.1 rfl (lv_room (Nat.le_of_ble_eq_true rfl)) d_M_combine_102 ⟨Nat.zero_le _, Nat.zero_le _⟩) hS (fun q _ h => hFc q h) hFc (fun u9 t H locs ht hvm hp hB hz1 hk1 hS => ?_)
      obtain rfl : g10 = u9 := hp.symm
      obtain ⟨hP, hD⟩ := bw_back hB ht hFc
      refine lv_aload_n hx hb d_M_combine_105 rfl (lv_at hl 0 rfl) ?_
      refine va_get (D := D) (ci := 3) (v := .ref (A 1)) (C := R_M) (T := T_M) (N := 13) hx hb hts in_M hown hK hP 0 rfl rfl 1 (by decide) (hw _ ww_535) (fun _ h9 => h9) rfl d_M_combine_106 ?_
      refine lv_iload_n hx hb d_M_combine_109 rfl (lv_at hl 1 rfl) ?_
      by_cases h11 : a0 < 0 ∨ 6 ≤ Int32.toNatClampNeg a0
      · have h0 := (if_pos h11).symm.trans hF; cases h0
      have hF := (if_neg h11).symm.trans hF
      refine va_lald hx hb hK hP 1 0 rfl rfl h11 d_M_combine_110 ?_
      obtain ⟨r12, e_r12, hF⟩ := Option.bind_eq_some_iff.mp hF
      refine vp_callSl (va_runS (As := [.long (g10.2.1 (Int32.toNatClampNeg a0))]) (rest := []) ⟨hx, hb, hml, hown, hts⟩ (k_M_codeOf l (g10.2.1 (Int32.toNatClampNeg a0)) r12 e_r12) (va_cwS 1 hts (ga_S ww_615 ww_616 ww_4 ww_617) rfl rfl rfl (by decide +kernel) ⟨by decide, by decide⟩) (pcs_pre hN) rfl rfl hl.1 rfl (lv_room (Nat.le_of_ble_eq_true rfl)) d_M_combine_111 ⟨Nat.zero_le _, Nat.zero_le _⟩).run (fun z9 hz9 => ?_)
      obtain rfl : r12 = z9 := hz9.symm
      obtain rfl := Option.some.inj hF
      exact W.lret hx hb hr (fun t ht hW => ⟨⟨_, _, rfl, rfl, bw_end hP hK hD ht hW⟩, hS.F ht⟩) hS.2.2 d_M_combine_114
    · have hF := (if_neg h9).symm.trans hF
      refine lv_lconst (v := 0) hx hb d_M_combine_83 (by decide) ?_
      obtain rfl := Option.some.inj hF
      exact W.lret hx hb hr (fun t ht hW => ⟨⟨_, _, rfl, rfl, bw_end hP hK hD ht hW⟩, hS.F ht⟩) hS.2.2 d_M_combine_84
  clear hF
  have hF := q5
  refine lv_if_eq hx hb d_M_combine_5 (tgt := 22) (by decide) (fun h9 => ?_) (fun h9 => ?_)
  · have hF := (if_pos h9).symm.trans hF
    refine lv_iconst (v := 1) hx hb d_M_combine_22 (by decide) ?_
    refine lv_goto hx hb d_M_combine_23 (tgt := 73) (by decide) ?_
    cases Option.some.inj hF
    exact k4 _ _ ls hP hD hS (lv_sub hl [0, 1, 2, 3] rfl)
  · have hF := (if_neg h9).symm.trans hF
    refine lv_iload_n hx hb d_M_combine_8 rfl (lv_at hl 2 rfl) ?_
    obtain ⟨r13, e_r13, hF⟩ := Option.bind_eq_some_iff.mp hF
    refine vp_callSi (va_runS (As := [.int a1]) (rest := [.ref (A 0)]) ⟨hx, hb, hml, hown, hts⟩ (k_M_isSlot l a1 r13 e_r13) (va_cwS 1 hts (ga_S ww_582 ww_583 ww_4 ww_584) rfl rfl rfl (by decide +kernel) ⟨by decide, by decide⟩) (pcs_pre hN) rfl rfl hl.1 rfl (lv_room (Nat.le_of_ble_eq_true rfl)) d_M_combine_9 ⟨Nat.zero_le _, Nat.zero_le _⟩).run (fun z9 hz9 => ?_)
    obtain rfl : r13 = z9 := hz9.symm
    refine lv_if_eq hx hb d_M_combine_12 (tgt := 22) (by decide) (fun h9 => ?_) (fun h9 => ?_)
    · have hF := (if_pos h9).symm.trans hF
      refine lv_iconst (v := 1) hx hb d_M_combine_22 (by decide) ?_
      refine lv_goto hx hb d_M_combine_23 (tgt := 73) (by decide) ?_
      cases Option.some.inj hF
      exact k4 _ _ ls hP hD hS (lv_sub hl [0, 1, 2, 3] rfl)
    · have hF := (if_neg h9).symm.trans hF
      refine lv_iload_n hx hb d_M_combine_15 rfl (lv_at hl 3 rfl) ?_
      obtain ⟨r14, e_r14, hF⟩ := Option.bind_eq_some_iff.mp hF
      refine vp_callSi (va_runS (As := [.int a2]) (rest := [.ref (A 0)]) ⟨hx, hb, hml, hown, hts⟩ (k_M_isSlot l a2 r14 e_r14) (va_cwS 1 hts (ga_S ww_582 ww_583 ww_4 ww_584) rfl rfl rfl (by decide +kernel) ⟨by decide, by decide⟩) (pcs_pre hN) rfl rfl hl.1 rfl (lv_room (Nat.le_of_ble_eq_true rfl)) d_M_combine_16 ⟨Nat.zero_le _, Nat.zero_le _⟩).run (fun z9 hz9 => ?_)
      obtain rfl : r14 = z9 := hz9.symm
      refine lv_if_ne hx hb d_M_combine_19 (tgt := 26) (by decide) (fun h9 => ?_) (fun h9 => ?_)
      · have hF := (if_neg h9).symm.trans hF
        refine lv_aload_n hx hb d_M_combine_26 rfl (lv_at hl 0 rfl) ?_
        refine lv_iload_n hx hb d_M_combine_27 rfl (lv_at hl 2 rfl) ?_
        obtain ⟨⟨r16, g15⟩, e_g15, hF⟩ := Option.bind_eq_some_iff.mp hF
        have hFc := va_free (wc := wM A cc g0) hD hS hA [0, 1, 2, 3, 4, 5, 6, 7, 8] rfl
        refine va_calli (va_runV (As := [.int a1]) (rest := [.ref (A 0)]) ⟨hx, hb, hml, hown, hts⟩ (k_M_full l D A cc g0 a1 _ (r16, g15) e_g15) (cwV 1 hts (ga_V ww_647 ww_649 wp_8 ww_4 ww_650) rfl rfl rfl (by decide +kernel) ⟨by decide, by decide⟩) (pw_pre (q0 := 0) (ci := 3) hP hK hD hN rfl rfl) rfl rfl hl.1 rfl (lv_room (Nat.le_of_ble_eq_true rfl)) d_M_combine_28 ⟨Nat.zero_le _, Nat.zero_le _⟩) hS (fun q _ h => hFc q h) hFc (fun r9 u9 t H locs ht hvm hp hB hz1 hk1 hS => ?_)
        obtain ⟨rfl, rfl⟩ := Prod.mk.inj hp.symm
        obtain ⟨hP, hD⟩ := bw_back hB ht hFc
        refine lv_if_eq hx hb d_M_combine_31 (tgt := 42) (by decide) (fun h9 => ?_) (fun h9 => ?_)
        · have hF := (if_pos h9).symm.trans hF
          refine lv_iconst (v := 2) hx hb d_M_combine_42 (by decide) ?_
          refine lv_goto hx hb d_M_combine_43 (tgt := 73) (by decide) ?_
          cases Option.some.inj hF
          exact k4 _ _ ls hP hD hS (lv_sub hl [0, 1, 2, 3] rfl)
        · have hF := (if_neg h9).symm.trans hF
          refine lv_aload_n hx hb d_M_combine_34 rfl (lv_at hl 0 rfl) ?_
          refine lv_iload_n hx hb d_M_combine_35 rfl (lv_at hl 3 rfl) ?_
          obtain ⟨⟨r19, g18⟩, e_g18, hF⟩ := Option.bind_eq_some_iff.mp hF
          have hFc := va_free (wc := wM A cc g15) hD hS hA [0, 1, 2, 3, 4, 5, 6, 7, 8] rfl
          refine va_calli (va_runV (As := [.int a2]) (rest := [.ref (A 0)]) ⟨hx, hb, hml, hown, hts⟩ (k_M_full l D A cc g15 a2 _ (r19, g18) e_g18) (cwV 1 hts (ga_V ww_647 ww_649 wp_8 ww_4 ww_650) rfl rfl rfl (by decide +kernel) ⟨by decide, by decide⟩) (pw_pre (q0 := 0) (ci := 3) hP hK hD hN rfl rfl) rfl rfl hl.1 rfl (lv_room (Nat.le_of_ble_eq_true rfl)) d_M_combine_36 ⟨Nat.zero_le _, Nat.zero_le _⟩) hS (fun q _ h => hFc q h) hFc (fun r9 u9 t H locs ht hvm hp hB hz1 hk1 hS => ?_)
          obtain ⟨rfl, rfl⟩ := Prod.mk.inj hp.symm
          obtain ⟨hP, hD⟩ := bw_back hB ht hFc
          refine lv_if_ne hx hb d_M_combine_39 (tgt := 46) (by decide) (fun h9 => ?_) (fun h9 => ?_)
          · have hF := (if_neg h9).symm.trans hF
            refine lv_aload_n hx hb d_M_combine_46 rfl (lv_at hl 0 rfl) ?_
            refine va_get (D := D) (ci := 3) (v := .ref (A 1)) (C := R_M) (T := T_M) (N := 13) hx hb hts in_M hown hK hP 0 rfl rfl 1 (by decide) (hw _ ww_535) (fun _ h9 => h9) rfl d_M_combine_47 ?_
            refine lv_iload_n hx hb d_M_combine_50 rfl (lv_at hl 2 rfl) ?_
            by_cases h21 : a1 < 0 ∨ 6 ≤ Int32.toNatClampNeg a1
            · have h0 := (if_pos h21).symm.trans hF; cases h0
            have hF := (if_neg h21).symm.trans hF
            refine va_lald hx hb hK hP 1 0 rfl rfl h21 d_M_combine_51 ?_
            refine lv_aload_n hx hb d_M_combine_52 rfl (lv_at hl 0 rfl) ?_
            refine va_get (D := D) (ci := 3) (v := .ref (A 1)) (C := R_M) (T := T_M) (N := 13) hx hb hts in_M hown hK hP 0 rfl rfl 1 (by decide) (hw _ ww_535) (fun _ h9 => h9) rfl d_M_combine_53 ?_
            refine lv_iload_n hx hb d_M_combine_56 rfl (lv_at hl 3 rfl) ?_
            by_cases h22 : a2 < 0 ∨ 6 ≤ Int32.toNatClampNeg a2
            · have h0 := (if_pos h22).symm.trans hF; cases h0
            have hF := (if_neg h22).symm.trans hF
            refine va_lald hx hb hK hP 1 0 rfl rfl h22 d_M_combine_57 ?_
            obtain ⟨r23, e_r23, hF⟩ := Option.bind_eq_some_iff.mp hF
            refine vp_callSl (va_runS (As := [.long (g18.2.1 (Int32.toNatClampNeg a1)), .long (g18.2.1 (Int32.toNatClampNeg a2))]) (rest := [.ref (A 0)]) ⟨hx, hb, hml, hown, hts⟩ (k_M_sum l (g18.2.1 (Int32.toNatClampNeg a1)) (g18.2.1 (Int32.toNatClampNeg a2)) r23 e_r23) (va_cwS 2 hts (ga_S ww_594 ww_595 ww_4 ww_596) rfl rfl rfl (by decide +kernel) ⟨by decide, by decide⟩) (pcs_pre hN) rfl rfl hl.1 rfl (lv_room (Nat.le_of_ble_eq_true rfl)) d_M_combine_58 ⟨Nat.zero_le _, Nat.zero_le _⟩).run (fun z9 hz9 => ?_)
            obtain rfl : r23 = z9 := hz9.symm
            refine lv_ldc2 (v := (-1)) hx hb hown (hw _ ww_533) d_M_combine_61 ?_
            refine W.lcmp hx hb d_M_combine_64 ?_
            refine lv_if_ne hx hb d_M_combine_65 (tgt := 72) (by decide) (fun h9 => ?_) (fun h9 => ?_)
            · have hF := (if_neg h9).symm.trans hF
              refine lv_iconst (v := 0) hx hb d_M_combine_72 (by decide) ?_
              cases Option.some.inj hF
              exact k4 _ _ ls hP hD hS (lv_sub hl [0, 1, 2, 3] rfl)
            · have hF := (if_pos h9).symm.trans hF
              refine lv_iconst (v := 3) hx hb d_M_combine_68 (by decide) ?_
              refine lv_goto hx hb d_M_combine_69 (tgt := 73) (by decide) ?_
              cases Option.some.inj hF
              exact k4 _ _ ls hP hD hS (lv_sub hl [0, 1, 2, 3] rfl)
          · have hF := (if_pos h9).symm.trans hF
            refine lv_iconst (v := 2) hx hb d_M_combine_42 (by decide) ?_
            refine lv_goto hx hb d_M_combine_43 (tgt := 73) (by decide) ?_
            cases Option.some.inj hF
            exact k4 _ _ ls hP hD hS (lv_sub hl [0, 1, 2, 3] rfl)
      · have hF := (if_pos h9).symm.trans hF
        refine lv_iconst (v := 1) hx hb d_M_combine_22 (by decide) ?_
        refine lv_goto hx hb d_M_combine_23 (tgt := 73) (by decide) ?_
        cases Option.some.inj hF
        exact k4 _ _ ls hP hD hS (lv_sub hl [0, 1, 2, 3] rfl)
def f_M_linear (g0 : sM) (a0 : Int32) (a1 : Int32) (a2 : Int32) : Option (Int64 × sM) := Option.bind (f_M_isSlot a0) (fun r1 => Option.bind (if r1 = 0 then (some (1, g0) : Option (Int32 × sM)) else (Option.bind (f_M_full g0 a0) (fun t19 => match t19 with | (r18, g17) => (if r18 = 0 then (some (2, g17)) else (Option.bind (f_M_isScalar a1) (fun r20 => if r20 = 0 then (some (3, g17)) else (Option.bind (f_M_isScalar a2) (fun r21 => if r21 = 0 then (some (3, g17)) else (some (0, g17)))))))))) (fun t6 => match t6 with | (j2, j3) => (Option.bind (if j2 = 0 then (Option.bind (f_M_g ) (fun r11 => Option.bind (f_M_times (Int32.toInt64 a1) r11) (fun r12 => if a0 < 0 ∨ 6 ≤ Int32.toNatClampNeg a0 then none else (Option.bind (f_M_times (Int32.toInt64 a2) (j3.2.1 (Int32.toNatClampNeg a0))) (fun r14 => Option.bind (f_M_sum r12 r14) (fun r15 => Option.bind (f_M_codeOf r15) (fun r16 => some (r16))))))) : Option (Int64)) else (some (0))) (fun j7 => some (j7, (j2, j3.2.1, j3.2.2.1, j3.2.2.2.1, j3.2.2.2.2.1, j3.2.2.2.2.2.1, j3.2.2.2.2.2.2.1, j3.2.2.2.2.2.2.2.1, j3.2.2.2.2.2.2.2.2.1, j3.2.2.2.2.2.2.2.2.2.1, j3.2.2.2.2.2.2.2.2.2.2.1, j3.2.2.2.2.2.2.2.2.2.2.2.1, j3.2.2.2.2.2.2.2.2.2.2.2.2))))))
abbrev rm_M_linear : Room := { frames := 5, cells := 0, slots := 0, locals := 147 }
set_option maxHeartbeats 4000000 in
set_option maxRecDepth 100000 in
theorem k_M_linear (l : Launch) (D : va_G) (A : Nat → Nat) (cc : Nat → ClassId) (g0 : sM) (a0 : Int32) (a1 : Int32) (a2 : Int32) (sz : Nat) (res : (Int64 × sM)) (hF : f_M_linear g0 a0 a1 a2 = some res) : Met l y_M_linear (Cond.code y_M_linear b_M_linear 4 (some .long) :: wa) rm_M_linear (pw D (wM A cc g0) (kM cc) [.ref (A 0), .int a0, .int a1, .int a2] sz) (va_Ql (fun r u => (r, u) = res) (bw D (wM A cc) (kM cc) (va_A (wM A cc g0) sz)) (va_A (wM A cc g0) sz)) 0 0 (va_A (wM A cc g0) sz) := by
  refine Met.ofW (cc := b_M_linear) (maxL := 4) (ret := (some .long)) (by decide) rfl ?_
  intro p e s m args below meth c s₁ B hml hv
  obtain ⟨rfl, hsz, hP, hK, hD0, hN⟩ := hv
  have hx := B.exec
  have hb := B.bytes
  have hr := B.returns
  have hts := atoms_spec (ws := Cond.code y_M_linear b_M_linear 4 (some .long) :: wa) B.pre
  have hw : ∀ w ∈ wa, w.before _ s = true := fun w h => hts w (List.mem_cons_of_mem _ h)
  have hown : s.vm.findClass R_M = some m.cls := findClass_of_methodNamed B.named
  have hlocks := B.notSynchronized
  subst hsz
  have hD := hD0.self (sz := s.heap.size)
  generalize hAe : va_A (wM A cc g0) s.heap.size = AA at hD ⊢
  have hA : ∀ q : Nat, s.heap.size ≤ q → AA q := fun q h => by rw [← hAe]; exact Or.inr h
  have hS : va_S AA s.heap s.heap [] := va_S.rf
  have hl := lv_entry ([.ref (A 0), .int a0, .int a1, .int a2]) (n := 4) (Nat.le_of_ble_eq_true rfl)
  rw [lg_entry_eq]
  generalize (lg_sl ([.ref (A 0), .int a0, .int a1, .int a2]) ++ List.replicate (4 - (lg_sl ([.ref (A 0), .int a0, .int a1, .int a2])).length) Slot.unset).toArray = ls at hl ⊢
  have hl : lv_has ls 4 [(0, .ref (A 0)), (1, .int a0), (2, .int a1), (3, .int a2)] := hl
  unfold f_M_linear at hF
  refine lv_aload_n hx hb d_M_linear_0 rfl (lv_at hl 0 rfl) ?_
  refine lv_iload_n hx hb d_M_linear_1 rfl (lv_at hl 1 rfl) ?_
  obtain ⟨r1, e_r1, hF⟩ := Option.bind_eq_some_iff.mp hF
  refine vp_callSi (va_runS (As := [.int a0]) (rest := [.ref (A 0)]) ⟨hx, hb, hml, hown, hts⟩ (k_M_isSlot l a0 r1 e_r1) (va_cwS 1 hts (ga_S ww_582 ww_583 ww_4 ww_584) rfl rfl rfl (by decide +kernel) ⟨by decide, by decide⟩) (pcs_pre hN) rfl rfl hl.1 rfl (lv_room (Nat.le_of_ble_eq_true rfl)) d_M_linear_2 ⟨Nat.zero_le _, Nat.zero_le _⟩).run (fun z9 hz9 => ?_)
  obtain rfl : r1 = z9 := hz9.symm
  obtain ⟨⟨j2, j3⟩, q5, hF⟩ := Option.bind_eq_some_iff.mp hF
  have k4 : ∀ (H : Heap) (locs : List Loc) (ls : Array Slot), va_P D vwC (wM A cc j3) H → va_D AA (wM A cc j3) → va_S AA s.heap H locs → lv_has ls 4 [(0, .ref (A 0)), (1, .int a0), (2, .int a1), (3, .int a2)] → W p l e rm_M_linear s m ([Value.ref (A 0), Value.int a0, Value.int a1, Value.int a2] : List Value).toArray below meth c H locs 0 0 (MQ below (va_Ql (fun r u => (r, u) = res) (bw D (wM A cc) (kM cc) AA) AA) ([Value.ref (A 0), Value.int a0, Value.int a1, Value.int a2] : List Value).toArray s 0 0 AA) (F0 m 43 ls [.int j2, .ref (A 0)]) := by
    intro H locs ls hP hD hS hl
    refine va_put (D := D) (ci := 3) (v := .int j2) (ty := .int) (C := R_M) (T := T_M) (N := 13) hx hb hts in_M ft_M ft_M_ok fn_M hown hK hP hD hS 0 rfl rfl 0 (by decide) (hw _ ww_534) (fun _ h9 => h9) rfl (by decide +kernel) rfl rfl (Nat.le_of_ble_eq_true rfl) d_M_linear_43 (fun H locs hP hD hS => ?_)
    have hP : va_P D vwC (wM A cc (j2, j3.2.1, j3.2.2.1, j3.2.2.2.1, j3.2.2.2.2.1, j3.2.2.2.2.2.1, j3.2.2.2.2.2.2.1, j3.2.2.2.2.2.2.2.1, j3.2.2.2.2.2.2.2.2.1, j3.2.2.2.2.2.2.2.2.2.1, j3.2.2.2.2.2.2.2.2.2.2.1, j3.2.2.2.2.2.2.2.2.2.2.2.1, j3.2.2.2.2.2.2.2.2.2.2.2.2)) H := hP
    have hD : va_D AA (wM A cc (j2, j3.2.1, j3.2.2.1, j3.2.2.2.1, j3.2.2.2.2.1, j3.2.2.2.2.2.1, j3.2.2.2.2.2.2.1, j3.2.2.2.2.2.2.2.1, j3.2.2.2.2.2.2.2.2.1, j3.2.2.2.2.2.2.2.2.2.1, j3.2.2.2.2.2.2.2.2.2.2.1, j3.2.2.2.2.2.2.2.2.2.2.2.1, j3.2.2.2.2.2.2.2.2.2.2.2.2)) := hD
    refine lv_aload_n hx hb d_M_linear_46 rfl (lv_at hl 0 rfl) ?_
    refine va_get (D := D) (ci := 3) (v := .int j2) (C := R_M) (T := T_M) (N := 13) hx hb hts in_M hown hK hP 0 rfl rfl 0 (by decide) (hw _ ww_534) (fun _ h9 => h9) rfl d_M_linear_47 ?_
    obtain ⟨j7, q9, hF⟩ := Option.bind_eq_some_iff.mp hF
    have k8 : ∀ (H : Heap) (locs : List Loc) (ls : Array Slot), va_P D vwC (wM A cc (j2, j3.2.1, j3.2.2.1, j3.2.2.2.1, j3.2.2.2.2.1, j3.2.2.2.2.2.1, j3.2.2.2.2.2.2.1, j3.2.2.2.2.2.2.2.1, j3.2.2.2.2.2.2.2.2.1, j3.2.2.2.2.2.2.2.2.2.1, j3.2.2.2.2.2.2.2.2.2.2.1, j3.2.2.2.2.2.2.2.2.2.2.2.1, j3.2.2.2.2.2.2.2.2.2.2.2.2)) H → va_D AA (wM A cc (j2, j3.2.1, j3.2.2.1, j3.2.2.2.1, j3.2.2.2.2.1, j3.2.2.2.2.2.1, j3.2.2.2.2.2.2.1, j3.2.2.2.2.2.2.2.1, j3.2.2.2.2.2.2.2.2.1, j3.2.2.2.2.2.2.2.2.2.1, j3.2.2.2.2.2.2.2.2.2.2.1, j3.2.2.2.2.2.2.2.2.2.2.2.1, j3.2.2.2.2.2.2.2.2.2.2.2.2)) → va_S AA s.heap H locs → lv_has ls 4 [] → W p l e rm_M_linear s m ([Value.ref (A 0), Value.int a0, Value.int a1, Value.int a2] : List Value).toArray below meth c H locs 0 0 (MQ below (va_Ql (fun r u => (r, u) = res) (bw D (wM A cc) (kM cc) AA) AA) ([Value.ref (A 0), Value.int a0, Value.int a1, Value.int a2] : List Value).toArray s 0 0 AA) (F0 m 82 ls [.long j7]) := by
      intro H locs ls hP hD hS hl
      obtain rfl := Option.some.inj hF
      exact W.lret hx hb hr (fun t ht hW => ⟨⟨_, _, rfl, rfl, bw_end hP hK hD ht hW⟩, hS.F ht⟩) hS.2.2 d_M_linear_82
    clear hF
    have hF := q9
    refine lv_if_ne hx hb d_M_linear_50 (tgt := 81) (by decide) (fun h9 => ?_) (fun h9 => ?_)
    · have hF := (if_neg h9).symm.trans hF
      refine lv_lconst (v := 0) hx hb d_M_linear_81 (by decide) ?_
      obtain rfl := Option.some.inj hF
      exact k8 _ _ ls hP hD hS (lv_sub hl [] rfl)
    · have hF := (if_pos h9).symm.trans hF
      refine lv_iload_n hx hb d_M_linear_53 rfl (lv_at hl 2 rfl) ?_
      refine lv_i2l (v := Int32.toInt64 a1) hx hb d_M_linear_54 rfl ?_
      obtain ⟨r11, e_r11, hF⟩ := Option.bind_eq_some_iff.mp hF
      refine vp_callSl (va_runS (As := []) (rest := [.long (Int32.toInt64 a1)]) ⟨hx, hb, hml, hown, hts⟩ (k_M_g l  r11 e_r11) (va_cwS 0 hts (ga_S ww_586 ww_587 ww_4 ww_588) rfl rfl rfl (by decide +kernel) ⟨by decide, by decide⟩) (pcs_pre hN) rfl rfl hl.1 rfl (lv_room (Nat.le_of_ble_eq_true rfl)) d_M_linear_55 ⟨Nat.zero_le _, Nat.zero_le _⟩).run (fun z9 hz9 => ?_)
      obtain rfl : r11 = z9 := hz9.symm
      obtain ⟨r12, e_r12, hF⟩ := Option.bind_eq_some_iff.mp hF
      refine vp_callSl (va_runS (As := [.long (Int32.toInt64 a1), .long r11]) (rest := []) ⟨hx, hb, hml, hown, hts⟩ (k_M_times l (Int32.toInt64 a1) r11 r12 e_r12) (va_cwS 2 hts (ga_S ww_590 ww_591 ww_4 ww_592) rfl rfl rfl (by decide +kernel) ⟨by decide, by decide⟩) (pcs_pre hN) rfl rfl hl.1 rfl (lv_room (Nat.le_of_ble_eq_true rfl)) d_M_linear_58 ⟨Nat.zero_le _, Nat.zero_le _⟩).run (fun z9 hz9 => ?_)
      obtain rfl : r12 = z9 := hz9.symm
      refine lv_iload_n hx hb d_M_linear_61 rfl (lv_at hl 3 rfl) ?_
      refine lv_i2l (v := Int32.toInt64 a2) hx hb d_M_linear_62 rfl ?_
      refine lv_aload_n hx hb d_M_linear_63 rfl (lv_at hl 0 rfl) ?_
      refine va_get (D := D) (ci := 3) (v := .ref (A 1)) (C := R_M) (T := T_M) (N := 13) hx hb hts in_M hown hK hP 0 rfl rfl 1 (by decide) (hw _ ww_535) (fun _ h9 => h9) rfl d_M_linear_64 ?_
      refine lv_iload_n hx hb d_M_linear_67 rfl (lv_at hl 1 rfl) ?_
      by_cases h13 : a0 < 0 ∨ 6 ≤ Int32.toNatClampNeg a0
      · have h0 := (if_pos h13).symm.trans hF; cases h0
      have hF := (if_neg h13).symm.trans hF
      refine va_lald hx hb hK hP 1 0 rfl rfl h13 d_M_linear_68 ?_
      obtain ⟨r14, e_r14, hF⟩ := Option.bind_eq_some_iff.mp hF
      refine vp_callSl (va_runS (As := [.long (Int32.toInt64 a2), .long (j3.2.1 (Int32.toNatClampNeg a0))]) (rest := [.long r12]) ⟨hx, hb, hml, hown, hts⟩ (k_M_times l (Int32.toInt64 a2) (j3.2.1 (Int32.toNatClampNeg a0)) r14 e_r14) (va_cwS 2 hts (ga_S ww_590 ww_591 ww_4 ww_592) rfl rfl rfl (by decide +kernel) ⟨by decide, by decide⟩) (pcs_pre hN) rfl rfl hl.1 rfl (lv_room (Nat.le_of_ble_eq_true rfl)) d_M_linear_69 ⟨Nat.zero_le _, Nat.zero_le _⟩).run (fun z9 hz9 => ?_)
      obtain rfl : r14 = z9 := hz9.symm
      obtain ⟨r15, e_r15, hF⟩ := Option.bind_eq_some_iff.mp hF
      refine vp_callSl (va_runS (As := [.long r12, .long r14]) (rest := []) ⟨hx, hb, hml, hown, hts⟩ (k_M_sum l r12 r14 r15 e_r15) (va_cwS 2 hts (ga_S ww_594 ww_595 ww_4 ww_596) rfl rfl rfl (by decide +kernel) ⟨by decide, by decide⟩) (pcs_pre hN) rfl rfl hl.1 rfl (lv_room (Nat.le_of_ble_eq_true rfl)) d_M_linear_72 ⟨Nat.zero_le _, Nat.zero_le _⟩).run (fun z9 hz9 => ?_)
      obtain rfl : r15 = z9 := hz9.symm
      obtain ⟨r16, e_r16, hF⟩ := Option.bind_eq_some_iff.mp hF
      refine vp_callSl (va_runS (As := [.long r15]) (rest := []) ⟨hx, hb, hml, hown, hts⟩ (k_M_codeOf l r15 r16 e_r16) (va_cwS 1 hts (ga_S ww_615 ww_616 ww_4 ww_617) rfl rfl rfl (by decide +kernel) ⟨by decide, by decide⟩) (pcs_pre hN) rfl rfl hl.1 rfl (lv_room (Nat.le_of_ble_eq_true rfl)) d_M_linear_75 ⟨Nat.zero_le _, Nat.zero_le _⟩).run (fun z9 hz9 => ?_)
      obtain rfl : r16 = z9 := hz9.symm
      refine lv_goto hx hb d_M_linear_78 (tgt := 82) (by decide) ?_
      obtain rfl := Option.some.inj hF
      exact k8 _ _ ls hP hD hS (lv_sub hl [] rfl)
  clear hF
  have hF := q5
  refine lv_if_ne hx hb d_M_linear_5 (tgt := 12) (by decide) (fun h9 => ?_) (fun h9 => ?_)
  · have hF := (if_neg h9).symm.trans hF
    refine lv_aload_n hx hb d_M_linear_12 rfl (lv_at hl 0 rfl) ?_
    refine lv_iload_n hx hb d_M_linear_13 rfl (lv_at hl 1 rfl) ?_
    obtain ⟨⟨r18, g17⟩, e_g17, hF⟩ := Option.bind_eq_some_iff.mp hF
    have hFc := va_free (wc := wM A cc g0) hD hS hA [0, 1, 2, 3, 4, 5, 6, 7, 8] rfl
    refine va_calli (va_runV (As := [.int a0]) (rest := [.ref (A 0)]) ⟨hx, hb, hml, hown, hts⟩ (k_M_full l D A cc g0 a0 _ (r18, g17) e_g17) (cwV 1 hts (ga_V ww_647 ww_649 wp_8 ww_4 ww_650) rfl rfl rfl (by decide +kernel) ⟨by decide, by decide⟩) (pw_pre (q0 := 0) (ci := 3) hP hK hD hN rfl rfl) rfl rfl hl.1 rfl (lv_room (Nat.le_of_ble_eq_true rfl)) d_M_linear_14 ⟨Nat.zero_le _, Nat.zero_le _⟩) hS (fun q _ h => hFc q h) hFc (fun r9 u9 t H locs ht hvm hp hB hz1 hk1 hS => ?_)
    obtain ⟨rfl, rfl⟩ := Prod.mk.inj hp.symm
    obtain ⟨hP, hD⟩ := bw_back hB ht hFc
    refine lv_if_ne hx hb d_M_linear_17 (tgt := 24) (by decide) (fun h9 => ?_) (fun h9 => ?_)
    · have hF := (if_neg h9).symm.trans hF
      refine lv_iload_n hx hb d_M_linear_24 rfl (lv_at hl 2 rfl) ?_
      obtain ⟨r20, e_r20, hF⟩ := Option.bind_eq_some_iff.mp hF
      refine vp_callSi (va_runS (As := [.int a1]) (rest := [.ref (A 0)]) ⟨hx, hb, hml, hown, hts⟩ (k_M_isScalar l a1 r20 e_r20) (va_cwS 1 hts (ga_S ww_651 ww_652 ww_4 ww_653) rfl rfl rfl (by decide +kernel) ⟨by decide, by decide⟩) (pcs_pre hN) rfl rfl hl.1 rfl (lv_room (Nat.le_of_ble_eq_true rfl)) d_M_linear_25 ⟨Nat.zero_le _, Nat.zero_le _⟩).run (fun z9 hz9 => ?_)
      obtain rfl : r20 = z9 := hz9.symm
      refine lv_if_eq hx hb d_M_linear_28 (tgt := 38) (by decide) (fun h9 => ?_) (fun h9 => ?_)
      · have hF := (if_pos h9).symm.trans hF
        refine lv_iconst (v := 3) hx hb d_M_linear_38 (by decide) ?_
        refine lv_goto hx hb d_M_linear_39 (tgt := 43) (by decide) ?_
        cases Option.some.inj hF
        exact k4 _ _ ls hP hD hS (lv_sub hl [0, 1, 2, 3] rfl)
      · have hF := (if_neg h9).symm.trans hF
        refine lv_iload_n hx hb d_M_linear_31 rfl (lv_at hl 3 rfl) ?_
        obtain ⟨r21, e_r21, hF⟩ := Option.bind_eq_some_iff.mp hF
        refine vp_callSi (va_runS (As := [.int a2]) (rest := [.ref (A 0)]) ⟨hx, hb, hml, hown, hts⟩ (k_M_isScalar l a2 r21 e_r21) (va_cwS 1 hts (ga_S ww_651 ww_652 ww_4 ww_653) rfl rfl rfl (by decide +kernel) ⟨by decide, by decide⟩) (pcs_pre hN) rfl rfl hl.1 rfl (lv_room (Nat.le_of_ble_eq_true rfl)) d_M_linear_32 ⟨Nat.zero_le _, Nat.zero_le _⟩).run (fun z9 hz9 => ?_)
        obtain rfl : r21 = z9 := hz9.symm
        refine lv_if_ne hx hb d_M_linear_35 (tgt := 42) (by decide) (fun h9 => ?_) (fun h9 => ?_)
        · have hF := (if_neg h9).symm.trans hF
          refine lv_iconst (v := 0) hx hb d_M_linear_42 (by decide) ?_
          cases Option.some.inj hF
          exact k4 _ _ ls hP hD hS (lv_sub hl [0, 1, 2, 3] rfl)
        · have hF := (if_pos h9).symm.trans hF
          refine lv_iconst (v := 3) hx hb d_M_linear_38 (by decide) ?_
          refine lv_goto hx hb d_M_linear_39 (tgt := 43) (by decide) ?_
          cases Option.some.inj hF
          exact k4 _ _ ls hP hD hS (lv_sub hl [0, 1, 2, 3] rfl)
    · have hF := (if_pos h9).symm.trans hF
      refine lv_iconst (v := 2) hx hb d_M_linear_20 (by decide) ?_
      refine lv_goto hx hb d_M_linear_21 (tgt := 43) (by decide) ?_
      cases Option.some.inj hF
      exact k4 _ _ ls hP hD hS (lv_sub hl [0, 1, 2, 3] rfl)
  · have hF := (if_pos h9).symm.trans hF
    refine lv_iconst (v := 1) hx hb d_M_linear_8 (by decide) ?_
    refine lv_goto hx hb d_M_linear_9 (tgt := 43) (by decide) ?_
    cases Option.some.inj hF
    exact k4 _ _ ls hP hD hS (lv_sub hl [0, 1, 2, 3] rfl)
def f_M_sign_35 (r6 : Int64) (v5 : Int64) : Nat → sM → Int32 → Option ((Int64 × sM) ⊕ (sM × Int32))
  | 0, _, _ => none
  | n + 1, g8, u7 => if 64 < u7 then (some (.inr (g8, u7))) else (Option.bind (f_M_h v5 r6) (fun r15 => Option.bind (f_M_h r15 (Int32.toInt64 u7)) (fun r16 => Option.bind (some ((Int64.toUInt64 r16 >>> ((Int32.toInt64 33).toUInt64 &&& Int64.toUInt64 63)).toInt64)) (fun v17 => if (lg_cmp v17 1) < 0 then (Option.bind (some (u7 + 1)) (fun v18 => f_M_sign_35 r6 v5 n g8 v18)) else (if 0 ≤ (lg_cmp v17 1073729077) then (Option.bind (some (u7 + 1)) (fun v19 => f_M_sign_35 r6 v5 n g8 v19)) else (Option.bind (f_M_g ) (fun r20 => Option.bind (f_M_times v17 r20) (fun r21 => Option.bind (f_M_xOf r21) (fun r22 => Option.bind (some (r22 - r22 / 1073729077 * 1073729077)) (fun v23 => Option.bind (f_M_quotient (r6 + ((v23 * v5) - (v23 * v5) / 1073729077 * 1073729077)) v17 1073729077) (fun r24 => if (lg_cmp v23 0) = 0 then (Option.bind (some (u7 + 1)) (fun v25 => f_M_sign_35 r6 v5 n g8 v25)) else (if (lg_cmp r24 0) = 0 then (Option.bind (some (u7 + 1)) (fun v26 => f_M_sign_35 r6 v5 n g8 v26)) else (Option.bind (if (lg_cmp r24 536864538) ≤ 0 then (some (0) : Option (Int32)) else (some (1))) (fun j27 => Option.bind (f_M_odd r21) (fun r31 => Option.bind (if r31 = j27 then (some (0) : Option (Int32)) else (some (1))) (fun j32 => Option.bind (f_M_xOf r21) (fun r36 => Option.bind (if (lg_cmp r36 1073729077) < 0 then (some (0) : Option (Int32)) else (some (2))) (fun j37 => Option.bind (if j27 = 0 then (some (r24) : Option (Int64)) else (some (1073729077 - r24))) (fun j41 => some (.inl ((v23 * 4294967296) + j41, (g8.1, g8.2.1, g8.2.2.1, (j32 + j37), g8.2.2.2.2.1, g8.2.2.2.2.2.1, g8.2.2.2.2.2.2.1, g8.2.2.2.2.2.2.2.1, g8.2.2.2.2.2.2.2.2.1, g8.2.2.2.2.2.2.2.2.2.1, g8.2.2.2.2.2.2.2.2.2.2.1, g8.2.2.2.2.2.2.2.2.2.2.2.1, g8.2.2.2.2.2.2.2.2.2.2.2.2))))))))))))))))))))))
def f_M_sign (g0 : sM) (a0 : Int32) (a1 : Int64) : Option (Int64 × sM) := Option.bind (f_M_noSecret g0 a0) (fun t3 => match t3 with | (r2, g1) => (if r2 = 0 then (if a0 < 0 ∨ 6 ≤ Int32.toNatClampNeg a0 then none else (Option.bind (some (g1.2.2.1 (Int32.toNatClampNeg a0))) (fun v5 => Option.bind (f_M_digest a1) (fun r6 => Option.bind (f_M_sign_35 r6 v5 65 (r2, g1.2.1, g1.2.2.1, g1.2.2.2.1, g1.2.2.2.2.1, g1.2.2.2.2.2.1, g1.2.2.2.2.2.2.1, g1.2.2.2.2.2.2.2.1, g1.2.2.2.2.2.2.2.2.1, g1.2.2.2.2.2.2.2.2.2.1, g1.2.2.2.2.2.2.2.2.2.2.1, g1.2.2.2.2.2.2.2.2.2.2.2.1, g1.2.2.2.2.2.2.2.2.2.2.2.2) 1) (fun t46 => match t46 with | .inl r9 => some r9 | .inr (o10, o11) => (some (0, (3, o10.2.1, o10.2.2.1, o10.2.2.2.1, o10.2.2.2.2.1, o10.2.2.2.2.2.1, o10.2.2.2.2.2.2.1, o10.2.2.2.2.2.2.2.1, o10.2.2.2.2.2.2.2.2.1, o10.2.2.2.2.2.2.2.2.2.1, o10.2.2.2.2.2.2.2.2.2.2.1, o10.2.2.2.2.2.2.2.2.2.2.2.1, o10.2.2.2.2.2.2.2.2.2.2.2.2)))))))) else (some (0, (r2, g1.2.1, g1.2.2.1, g1.2.2.2.1, g1.2.2.2.2.1, g1.2.2.2.2.2.1, g1.2.2.2.2.2.2.1, g1.2.2.2.2.2.2.2.1, g1.2.2.2.2.2.2.2.2.1, g1.2.2.2.2.2.2.2.2.2.1, g1.2.2.2.2.2.2.2.2.2.2.1, g1.2.2.2.2.2.2.2.2.2.2.2.1, g1.2.2.2.2.2.2.2.2.2.2.2.2)))))
abbrev rm_M_sign : Room := { frames := 5, cells := 0, slots := 0, locals := 147 }
set_option maxHeartbeats 4000000 in
set_option maxRecDepth 100000 in
theorem k_M_sign (l : Launch) (D : va_G) (A : Nat → Nat) (cc : Nat → ClassId) (g0 : sM) (a0 : Int32) (a1 : Int64) (sz : Nat) (res : (Int64 × sM)) (hF : f_M_sign g0 a0 a1 = some res) : Met l y_M_sign (Cond.code y_M_sign b_M_sign 18 (some .long) :: wa) rm_M_sign (pw D (wM A cc g0) (kM cc) [.ref (A 0), .int a0, .long a1] sz) (va_Ql (fun r u => (r, u) = res) (bw D (wM A cc) (kM cc) (va_A (wM A cc g0) sz)) (va_A (wM A cc g0) sz)) 0 0 (va_A (wM A cc g0) sz) := by
  refine Met.ofW (cc := b_M_sign) (maxL := 18) (ret := (some .long)) (by decide) rfl ?_
  intro p e s m args below meth c s₁ B hml hv
  obtain ⟨rfl, hsz, hP, hK, hD0, hN⟩ := hv
  have hx := B.exec
  have hb := B.bytes
  have hr := B.returns
  have hts := atoms_spec (ws := Cond.code y_M_sign b_M_sign 18 (some .long) :: wa) B.pre
  have hw : ∀ w ∈ wa, w.before _ s = true := fun w h => hts w (List.mem_cons_of_mem _ h)
  have hown : s.vm.findClass R_M = some m.cls := findClass_of_methodNamed B.named
  have hlocks := B.notSynchronized
  subst hsz
  have hD := hD0.self (sz := s.heap.size)
  generalize hAe : va_A (wM A cc g0) s.heap.size = AA at hD ⊢
  have hA : ∀ q : Nat, s.heap.size ≤ q → AA q := fun q h => by rw [← hAe]; exact Or.inr h
  have hS : va_S AA s.heap s.heap [] := va_S.rf
  have hl := lv_entry ([.ref (A 0), .int a0, .long a1]) (n := 18) (Nat.le_of_ble_eq_true rfl)
  rw [lg_entry_eq]
  generalize (lg_sl ([.ref (A 0), .int a0, .long a1]) ++ List.replicate (18 - (lg_sl ([.ref (A 0), .int a0, .long a1])).length) Slot.unset).toArray = ls at hl ⊢
  have hl : lv_has ls 18 [(0, .ref (A 0)), (1, .int a0), (2, .long a1)] := hl
  unfold f_M_sign at hF
  refine lv_aload_n hx hb d_M_sign_0 rfl (lv_at hl 0 rfl) ?_
  refine lv_aload_n hx hb d_M_sign_1 rfl (lv_at hl 0 rfl) ?_
  refine lv_iload_n hx hb d_M_sign_2 rfl (lv_at hl 1 rfl) ?_
  obtain ⟨⟨r2, g1⟩, e_g1, hF⟩ := Option.bind_eq_some_iff.mp hF
  have hFc := va_free (wc := wM A cc g0) hD hS hA [0, 1, 2, 3, 4, 5, 6, 7, 8] rfl
  refine va_calli (va_runV (As := [.int a0]) (rest := [.ref (A 0)]) ⟨hx, hb, hml, hown, hts⟩ (k_M_noSecret l D A cc g0 a0 _ (r2, g1) e_g1) (cwV 1 hts (ga_V ww_666 ww_668 wp_9 ww_4 ww_669) rfl rfl rfl (by decide +kernel) ⟨by decide, by decide⟩) (pw_pre (q0 := 0) (ci := 3) hP hK hD hN rfl rfl) rfl rfl hl.1 rfl (lv_room (Nat.le_of_ble_eq_true rfl)) d_M_sign_3 ⟨Nat.zero_le _, Nat.zero_le _⟩) hS (fun q _ h => hFc q h) hFc (fun r9 u9 t H locs ht hvm hp hB hz1 hk1 hS => ?_)
  obtain ⟨rfl, rfl⟩ := Prod.mk.inj hp.symm
  obtain ⟨hP, hD⟩ := bw_back hB ht hFc
  refine va_put (D := D) (ci := 3) (v := .int r2) (ty := .int) (C := R_M) (T := T_M) (N := 13) hx hb hts in_M ft_M ft_M_ok fn_M hown hK hP hD hS 0 rfl rfl 0 (by decide) (hw _ ww_534) (fun _ h9 => h9) rfl (by decide +kernel) rfl rfl (Nat.le_of_ble_eq_true rfl) d_M_sign_6 (fun H locs hP hD hS => ?_)
  have hP : va_P D vwC (wM A cc (r2, g1.2.1, g1.2.2.1, g1.2.2.2.1, g1.2.2.2.2.1, g1.2.2.2.2.2.1, g1.2.2.2.2.2.2.1, g1.2.2.2.2.2.2.2.1, g1.2.2.2.2.2.2.2.2.1, g1.2.2.2.2.2.2.2.2.2.1, g1.2.2.2.2.2.2.2.2.2.2.1, g1.2.2.2.2.2.2.2.2.2.2.2.1, g1.2.2.2.2.2.2.2.2.2.2.2.2)) H := hP
  have hD : va_D AA (wM A cc (r2, g1.2.1, g1.2.2.1, g1.2.2.2.1, g1.2.2.2.2.1, g1.2.2.2.2.2.1, g1.2.2.2.2.2.2.1, g1.2.2.2.2.2.2.2.1, g1.2.2.2.2.2.2.2.2.1, g1.2.2.2.2.2.2.2.2.2.1, g1.2.2.2.2.2.2.2.2.2.2.1, g1.2.2.2.2.2.2.2.2.2.2.2.1, g1.2.2.2.2.2.2.2.2.2.2.2.2)) := hD
  refine lv_aload_n hx hb d_M_sign_9 rfl (lv_at hl 0 rfl) ?_
  refine va_get (D := D) (ci := 3) (v := .int r2) (C := R_M) (T := T_M) (N := 13) hx hb hts in_M hown hK hP 0 rfl rfl 0 (by decide) (hw _ ww_534) (fun _ h9 => h9) rfl d_M_sign_10 ?_
  refine lv_if_eq hx hb d_M_sign_13 (tgt := 18) (by decide) (fun h9 => ?_) (fun h9 => ?_)
  · have hF := (if_pos h9).symm.trans hF
    refine lv_aload_n hx hb d_M_sign_18 rfl (lv_at hl 0 rfl) ?_
    refine va_get (D := D) (ci := 3) (v := .ref (A 2)) (C := R_M) (T := T_M) (N := 13) hx hb hts in_M hown hK hP 0 rfl rfl 2 (by decide) (hw _ ww_536) (fun _ h9 => h9) rfl d_M_sign_19 ?_
    refine lv_iload_n hx hb d_M_sign_22 rfl (lv_at hl 1 rfl) ?_
    by_cases h4 : a0 < 0 ∨ 6 ≤ Int32.toNatClampNeg a0
    · have h0 := (if_pos h4).symm.trans hF; cases h0
    have hF := (if_neg h4).symm.trans hF
    refine va_lald hx hb hK hP 2 1 rfl rfl h4 d_M_sign_23 ?_
    obtain ⟨v5, e_v5, hF⟩ := Option.bind_eq_some_iff.mp hF
    refine nm_l (Option.some.inj e_v5) ?_
    refine lv_lstore hx hb d_M_sign_24 hl (by decide) (lv' := [(4, .long v5), (0, .ref (A 0)), (1, .int a0), (2, .long a1)]) rfl (fun ls hl => ?_)
    refine lv_lload_n hx hb d_M_sign_26 rfl (lv_at hl 3 rfl) ?_
    obtain ⟨r6, e_r6, hF⟩ := Option.bind_eq_some_iff.mp hF
    refine vp_callSl (va_runS (As := [.long a1]) (rest := []) ⟨hx, hb, hml, hown, hts⟩ (k_M_digest l a1 r6 e_r6) (va_cwS 1 hts (ga_S ww_670 ww_671 ww_4 ww_672) rfl rfl rfl (by decide +kernel) ⟨by decide, by decide⟩) (pcs_pre hN) rfl rfl hl.1 rfl (lv_room (Nat.le_of_ble_eq_true rfl)) d_M_sign_27 ⟨Nat.zero_le _, Nat.zero_le _⟩).run (fun z9 hz9 => ?_)
    obtain rfl : r6 = z9 := hz9.symm
    refine lv_lstore hx hb d_M_sign_30 hl (by decide) (lv' := [(6, .long r6), (4, .long v5), (0, .ref (A 0)), (1, .int a0), (2, .long a1)]) rfl (fun ls hl => ?_)
    refine lv_iconst (v := 1) hx hb d_M_sign_32 (by decide) ?_
    refine lv_istore hx hb d_M_sign_33 hl (by decide) (lv' := [(8, .int 1), (6, .long r6), (4, .long v5), (0, .ref (A 0)), (1, .int a0), (2, .long a1)]) rfl (fun ls hl => ?_)
    obtain ⟨x14, q45, hF⟩ := Option.bind_eq_some_iff.mp hF
    have k13 : ∀ r9, x14 = .inl r9 → res = r9 := by
      intro r9 h9
      subst h9
      exact (Option.some.inj hF).symm
    have k12 : ∀ (o10 : sM) (o11 : Int32), x14 = .inr (o10, o11) → ∀ (H : Heap) (locs : List Loc) (ls : Array Slot), va_P D vwC (wM A cc o10) H → va_D AA (wM A cc o10) → va_S AA s.heap H locs → lv_has ls 18 [(8, .int o11), (6, .long r6), (4, .long v5), (0, .ref (A 0))] → W p l e rm_M_sign s m ([Value.ref (A 0), Value.int a0, Value.long a1] : List Value).toArray below meth c H locs 0 0 (MQ below (va_Ql (fun r u => (r, u) = res) (bw D (wM A cc) (kM cc) AA) AA) ([Value.ref (A 0), Value.int a0, Value.long a1] : List Value).toArray s 0 0 AA) (F0 m 216 ls []) := by
      intro o10 o11 h9 H locs ls hP hD hS hl
      subst h9
      refine lv_aload_n hx hb d_M_sign_216 rfl (lv_at hl 3 rfl) ?_
      refine lv_iconst (v := 3) hx hb d_M_sign_217 (by decide) ?_
      refine va_put (D := D) (ci := 3) (v := .int 3) (ty := .int) (C := R_M) (T := T_M) (N := 13) hx hb hts in_M ft_M ft_M_ok fn_M hown hK hP hD hS 0 rfl rfl 0 (by decide) (hw _ ww_534) (fun _ h9 => h9) rfl (by decide +kernel) rfl rfl (Nat.le_of_ble_eq_true rfl) d_M_sign_218 (fun H locs hP hD hS => ?_)
      have hP : va_P D vwC (wM A cc (3, o10.2.1, o10.2.2.1, o10.2.2.2.1, o10.2.2.2.2.1, o10.2.2.2.2.2.1, o10.2.2.2.2.2.2.1, o10.2.2.2.2.2.2.2.1, o10.2.2.2.2.2.2.2.2.1, o10.2.2.2.2.2.2.2.2.2.1, o10.2.2.2.2.2.2.2.2.2.2.1, o10.2.2.2.2.2.2.2.2.2.2.2.1, o10.2.2.2.2.2.2.2.2.2.2.2.2)) H := hP
      have hD : va_D AA (wM A cc (3, o10.2.1, o10.2.2.1, o10.2.2.2.1, o10.2.2.2.2.1, o10.2.2.2.2.2.1, o10.2.2.2.2.2.2.1, o10.2.2.2.2.2.2.2.1, o10.2.2.2.2.2.2.2.2.1, o10.2.2.2.2.2.2.2.2.2.1, o10.2.2.2.2.2.2.2.2.2.2.1, o10.2.2.2.2.2.2.2.2.2.2.2.1, o10.2.2.2.2.2.2.2.2.2.2.2.2)) := hD
      refine lv_lconst (v := 0) hx hb d_M_sign_221 (by decide) ?_
      obtain rfl := Option.some.inj hF
      exact W.lret hx hb hr (fun t ht hW => ⟨⟨_, _, rfl, rfl, bw_end hP hK hD ht hW⟩, hS.F ht⟩) hS.2.2 d_M_sign_222
    clear hF
    have k9 : ∀ (n : Nat) (g8 : sM) (u7 : Int32) (H : Heap) (locs : List Loc) (ls : Array Slot), va_P D vwC (wM A cc g8) H → va_D AA (wM A cc g8) → va_S AA s.heap H locs → lv_has ls 18 [(8, .int u7), (6, .long r6), (4, .long v5), (0, .ref (A 0))] → f_M_sign_35 r6 v5 n g8 u7 = some x14 → W p l e rm_M_sign s m ([Value.ref (A 0), Value.int a0, Value.long a1] : List Value).toArray below meth c H locs 0 0 (MQ below (va_Ql (fun r u => (r, u) = res) (bw D (wM A cc) (kM cc) AA) AA) ([Value.ref (A 0), Value.int a0, Value.long a1] : List Value).toArray s 0 0 AA) (F0 m 35 ls []) := by
      intro n
      induction n with
      | zero => intro g8 u7 H locs ls hP hD hS hl hF; cases hF
      | succ n ih =>
        intro g8 u7 H locs ls hP hD hS hl hF
        rw [f_M_sign_35] at hF
        refine lv_iload hx hb d_M_sign_35 (lv_at hl 0 rfl) ?_
        refine lv_bipush (v := 64) hx hb d_M_sign_37 (by decide) ?_
        refine lv_icmp_gt hx hb d_M_sign_39 (tgt := 216) (by decide) (fun h9 => ?_) (fun h9 => ?_)
        · have hF := (if_pos h9).symm.trans hF
          exact k12 g8 u7 (Option.some.inj hF).symm _ _ ls hP hD hS (lv_sub hl [0, 1, 2, 3] rfl)
        · have hF := (if_neg h9).symm.trans hF
          refine lv_lload hx hb d_M_sign_42 (lv_at hl 2 rfl) ?_
          refine lv_lload hx hb d_M_sign_44 (lv_at hl 1 rfl) ?_
          obtain ⟨r15, e_r15, hF⟩ := Option.bind_eq_some_iff.mp hF
          refine vp_callSl (va_runS (As := [.long v5, .long r6]) (rest := []) ⟨hx, hb, hml, hown, hts⟩ (k_M_h l v5 r6 r15 e_r15) (va_cwS 2 hts (ga_S ww_674 ww_675 ww_4 ww_676) rfl rfl rfl (by decide +kernel) ⟨by decide, by decide⟩) (pcs_pre hN) rfl rfl hl.1 rfl (lv_room (Nat.le_of_ble_eq_true rfl)) d_M_sign_46 ⟨Nat.zero_le _, Nat.zero_le _⟩).run (fun z9 hz9 => ?_)
          obtain rfl : r15 = z9 := hz9.symm
          refine lv_iload hx hb d_M_sign_49 (lv_at hl 0 rfl) ?_
          refine lv_i2l (v := Int32.toInt64 u7) hx hb d_M_sign_51 rfl ?_
          obtain ⟨r16, e_r16, hF⟩ := Option.bind_eq_some_iff.mp hF
          refine vp_callSl (va_runS (As := [.long r15, .long (Int32.toInt64 u7)]) (rest := []) ⟨hx, hb, hml, hown, hts⟩ (k_M_h l r15 (Int32.toInt64 u7) r16 e_r16) (va_cwS 2 hts (ga_S ww_674 ww_675 ww_4 ww_676) rfl rfl rfl (by decide +kernel) ⟨by decide, by decide⟩) (pcs_pre hN) rfl rfl hl.1 rfl (lv_room (Nat.le_of_ble_eq_true rfl)) d_M_sign_52 ⟨Nat.zero_le _, Nat.zero_le _⟩).run (fun z9 hz9 => ?_)
          obtain rfl : r16 = z9 := hz9.symm
          refine lv_bipush (v := 33) hx hb d_M_sign_55 (by decide) ?_
          refine lv_lushr (v := (Int64.toUInt64 r16 >>> ((Int32.toInt64 33).toUInt64 &&& Int64.toUInt64 63)).toInt64) hx hb d_M_sign_57 rfl ?_
          obtain ⟨v17, e_v17, hF⟩ := Option.bind_eq_some_iff.mp hF
          refine nm_l (Option.some.inj e_v17) ?_
          refine lv_lstore hx hb d_M_sign_58 hl (by decide) (lv' := [(9, .long v17), (8, .int u7), (6, .long r6), (4, .long v5), (0, .ref (A 0))]) rfl (fun ls hl => ?_)
          refine lv_lload hx hb d_M_sign_60 (lv_at hl 0 rfl) ?_
          refine lv_lconst (v := 1) hx hb d_M_sign_62 (by decide) ?_
          refine W.lcmp hx hb d_M_sign_63 ?_
          refine lv_if_lt hx hb d_M_sign_64 (tgt := 210) (by decide) (fun h9 => ?_) (fun h9 => ?_)
          · have hF := (if_pos h9).symm.trans hF
            obtain ⟨v18, e_v18, hF⟩ := Option.bind_eq_some_iff.mp hF
            refine lv_iinc hx hb d_M_sign_210 hl (k := 1) (v := v18) rfl ((show _ = u7 + 1 from rfl).trans (Option.some.inj e_v18)) (by decide) (lv' := [(8, .int v18), (9, .long v17), (6, .long r6), (4, .long v5), (0, .ref (A 0))]) rfl (fun ls hl => ?_)
            refine lv_goto hx hb d_M_sign_213 (tgt := 35) (by decide) ?_
            exact ih g8 v18 _ _ ls hP hD hS (lv_sub hl [0, 2, 3, 4] rfl) hF
          · have hF := (if_neg h9).symm.trans hF
            refine lv_lload hx hb d_M_sign_67 (lv_at hl 0 rfl) ?_
            refine lv_ldc2 (v := 1073729077) hx hb hown (hw _ ww_585) d_M_sign_69 ?_
            refine W.lcmp hx hb d_M_sign_72 ?_
            refine lv_if_ge hx hb d_M_sign_73 (tgt := 210) (by decide) (fun h9 => ?_) (fun h9 => ?_)
            · have hF := (if_pos h9).symm.trans hF
              obtain ⟨v19, e_v19, hF⟩ := Option.bind_eq_some_iff.mp hF
              refine lv_iinc hx hb d_M_sign_210 hl (k := 1) (v := v19) rfl ((show _ = u7 + 1 from rfl).trans (Option.some.inj e_v19)) (by decide) (lv' := [(8, .int v19), (9, .long v17), (6, .long r6), (4, .long v5), (0, .ref (A 0))]) rfl (fun ls hl => ?_)
              refine lv_goto hx hb d_M_sign_213 (tgt := 35) (by decide) ?_
              exact ih g8 v19 _ _ ls hP hD hS (lv_sub hl [0, 2, 3, 4] rfl) hF
            · have hF := (if_neg h9).symm.trans hF
              refine lv_lload hx hb d_M_sign_76 (lv_at hl 0 rfl) ?_
              obtain ⟨r20, e_r20, hF⟩ := Option.bind_eq_some_iff.mp hF
              refine vp_callSl (va_runS (As := []) (rest := [.long v17]) ⟨hx, hb, hml, hown, hts⟩ (k_M_g l  r20 e_r20) (va_cwS 0 hts (ga_S ww_586 ww_587 ww_4 ww_588) rfl rfl rfl (by decide +kernel) ⟨by decide, by decide⟩) (pcs_pre hN) rfl rfl hl.1 rfl (lv_room (Nat.le_of_ble_eq_true rfl)) d_M_sign_78 ⟨Nat.zero_le _, Nat.zero_le _⟩).run (fun z9 hz9 => ?_)
              obtain rfl : r20 = z9 := hz9.symm
              obtain ⟨r21, e_r21, hF⟩ := Option.bind_eq_some_iff.mp hF
              refine vp_callSl (va_runS (As := [.long v17, .long r20]) (rest := []) ⟨hx, hb, hml, hown, hts⟩ (k_M_times l v17 r20 r21 e_r21) (va_cwS 2 hts (ga_S ww_590 ww_591 ww_4 ww_592) rfl rfl rfl (by decide +kernel) ⟨by decide, by decide⟩) (pcs_pre hN) rfl rfl hl.1 rfl (lv_room (Nat.le_of_ble_eq_true rfl)) d_M_sign_81 ⟨Nat.zero_le _, Nat.zero_le _⟩).run (fun z9 hz9 => ?_)
              obtain rfl : r21 = z9 := hz9.symm
              refine lv_lstore hx hb d_M_sign_84 hl (by decide) (lv' := [(11, .long r21), (9, .long v17), (8, .int u7), (6, .long r6), (4, .long v5), (0, .ref (A 0))]) rfl (fun ls hl => ?_)
              refine lv_lload hx hb d_M_sign_86 (lv_at hl 0 rfl) ?_
              obtain ⟨r22, e_r22, hF⟩ := Option.bind_eq_some_iff.mp hF
              refine vp_callSl (va_runS (As := [.long r21]) (rest := []) ⟨hx, hb, hml, hown, hts⟩ (k_M_xOf l r21 r22 e_r22) (va_cwS 1 hts (ga_S ww_597 ww_598 ww_4 ww_599) rfl rfl rfl (by decide +kernel) ⟨by decide, by decide⟩) (pcs_pre hN) rfl rfl hl.1 rfl (lv_room (Nat.le_of_ble_eq_true rfl)) d_M_sign_88 ⟨Nat.zero_le _, Nat.zero_le _⟩).run (fun z9 hz9 => ?_)
              obtain rfl : r22 = z9 := hz9.symm
              refine lv_ldc2 (v := 1073729077) hx hb hown (hw _ ww_585) d_M_sign_91 ?_
              refine lv_lrem hx hb d_M_sign_94 (by decide) ?_
              obtain ⟨v23, e_v23, hF⟩ := Option.bind_eq_some_iff.mp hF
              refine nm_l (Option.some.inj e_v23) ?_
              refine lv_lstore hx hb d_M_sign_95 hl (by decide) (lv' := [(13, .long v23), (11, .long r21), (9, .long v17), (8, .int u7), (6, .long r6), (4, .long v5), (0, .ref (A 0))]) rfl (fun ls hl => ?_)
              refine lv_lload hx hb d_M_sign_97 (lv_at hl 4 rfl) ?_
              refine lv_lload hx hb d_M_sign_99 (lv_at hl 0 rfl) ?_
              refine lv_lload hx hb d_M_sign_101 (lv_at hl 5 rfl) ?_
              refine lv_lmul hx hb d_M_sign_103 ?_
              refine lv_ldc2 (v := 1073729077) hx hb hown (hw _ ww_585) d_M_sign_104 ?_
              refine lv_lrem hx hb d_M_sign_107 (by decide) ?_
              refine lv_ladd hx hb d_M_sign_108 ?_
              refine lv_lload hx hb d_M_sign_109 (lv_at hl 2 rfl) ?_
              refine lv_ldc2 (v := 1073729077) hx hb hown (hw _ ww_585) d_M_sign_111 ?_
              obtain ⟨r24, e_r24, hF⟩ := Option.bind_eq_some_iff.mp hF
              refine vp_callSl (va_runS (As := [.long (r6 + ((v23 * v5) - (v23 * v5) / 1073729077 * 1073729077)), .long v17, .long 1073729077]) (rest := []) ⟨hx, hb, hml, hown, hts⟩ (k_M_quotient l (r6 + ((v23 * v5) - (v23 * v5) / 1073729077 * 1073729077)) v17 1073729077 r24 e_r24) (va_cwS 3 hts (ga_S ww_606 ww_607 ww_4 ww_608) rfl rfl rfl (by decide +kernel) ⟨by decide, by decide⟩) (pcs_pre hN) rfl rfl hl.1 rfl (lv_room (Nat.le_of_ble_eq_true rfl)) d_M_sign_114 ⟨Nat.zero_le _, Nat.zero_le _⟩).run (fun z9 hz9 => ?_)
              obtain rfl : r24 = z9 := hz9.symm
              refine lv_lstore hx hb d_M_sign_117 hl (by decide) (lv' := [(15, .long r24), (13, .long v23), (11, .long r21), (9, .long v17), (8, .int u7), (6, .long r6), (4, .long v5), (0, .ref (A 0))]) rfl (fun ls hl => ?_)
              refine lv_lload hx hb d_M_sign_119 (lv_at hl 1 rfl) ?_
              refine lv_lconst (v := 0) hx hb d_M_sign_121 (by decide) ?_
              refine W.lcmp hx hb d_M_sign_122 ?_
              refine lv_if_eq hx hb d_M_sign_123 (tgt := 210) (by decide) (fun h9 => ?_) (fun h9 => ?_)
              · have hF := (if_pos h9).symm.trans hF
                obtain ⟨v25, e_v25, hF⟩ := Option.bind_eq_some_iff.mp hF
                refine lv_iinc hx hb d_M_sign_210 hl (k := 4) (v := v25) rfl ((show _ = u7 + 1 from rfl).trans (Option.some.inj e_v25)) (by decide) (lv' := [(8, .int v25), (15, .long r24), (13, .long v23), (11, .long r21), (9, .long v17), (6, .long r6), (4, .long v5), (0, .ref (A 0))]) rfl (fun ls hl => ?_)
                refine lv_goto hx hb d_M_sign_213 (tgt := 35) (by decide) ?_
                exact ih g8 v25 _ _ ls hP hD hS (lv_sub hl [0, 5, 6, 7] rfl) hF
              · have hF := (if_neg h9).symm.trans hF
                refine lv_lload hx hb d_M_sign_126 (lv_at hl 0 rfl) ?_
                refine lv_lconst (v := 0) hx hb d_M_sign_128 (by decide) ?_
                refine W.lcmp hx hb d_M_sign_129 ?_
                refine lv_if_eq hx hb d_M_sign_130 (tgt := 210) (by decide) (fun h9 => ?_) (fun h9 => ?_)
                · have hF := (if_pos h9).symm.trans hF
                  obtain ⟨v26, e_v26, hF⟩ := Option.bind_eq_some_iff.mp hF
                  refine lv_iinc hx hb d_M_sign_210 hl (k := 4) (v := v26) rfl ((show _ = u7 + 1 from rfl).trans (Option.some.inj e_v26)) (by decide) (lv' := [(8, .int v26), (15, .long r24), (13, .long v23), (11, .long r21), (9, .long v17), (6, .long r6), (4, .long v5), (0, .ref (A 0))]) rfl (fun ls hl => ?_)
                  refine lv_goto hx hb d_M_sign_213 (tgt := 35) (by decide) ?_
                  exact ih g8 v26 _ _ ls hP hD hS (lv_sub hl [0, 5, 6, 7] rfl) hF
                · have hF := (if_neg h9).symm.trans hF
                  refine lv_lload hx hb d_M_sign_133 (lv_at hl 0 rfl) ?_
                  refine lv_ldc2 (v := 536864538) hx hb hown (hw _ ww_680) d_M_sign_135 ?_
                  refine W.lcmp hx hb d_M_sign_138 ?_
                  obtain ⟨j27, q29, hF⟩ := Option.bind_eq_some_iff.mp hF
                  have k28 : ∀ (H : Heap) (locs : List Loc) (ls : Array Slot), va_P D vwC (wM A cc g8) H → va_D AA (wM A cc g8) → va_S AA s.heap H locs → lv_has ls 18 [(15, .long r24), (13, .long v23), (11, .long r21), (0, .ref (A 0))] → W p l e rm_M_sign s m ([Value.ref (A 0), Value.int a0, Value.long a1] : List Value).toArray below meth c H locs 0 0 (MQ below (va_Ql (fun r u => (r, u) = res) (bw D (wM A cc) (kM cc) AA) AA) ([Value.ref (A 0), Value.int a0, Value.long a1] : List Value).toArray s 0 0 AA) (F0 m 147 ls [.int j27]) := by
                    intro H locs ls hP hD hS hl
                    refine lv_istore hx hb d_M_sign_147 hl (by decide) (lv' := [(17, .int j27), (15, .long r24), (13, .long v23), (11, .long r21), (0, .ref (A 0))]) rfl (fun ls hl => ?_)
                    refine lv_aload_n hx hb d_M_sign_149 rfl (lv_at hl 4 rfl) ?_
                    refine lv_lload hx hb d_M_sign_150 (lv_at hl 3 rfl) ?_
                    obtain ⟨r31, e_r31, hF⟩ := Option.bind_eq_some_iff.mp hF
                    refine vp_callSi (va_runS (As := [.long r21]) (rest := [.ref (A 0)]) ⟨hx, hb, hml, hown, hts⟩ (k_M_odd l r21 r31 e_r31) (va_cwS 1 hts (ga_S ww_681 ww_682 ww_4 ww_683) rfl rfl rfl (by decide +kernel) ⟨by decide, by decide⟩) (pcs_pre hN) rfl rfl hl.1 rfl (lv_room (Nat.le_of_ble_eq_true rfl)) d_M_sign_152 ⟨Nat.zero_le _, Nat.zero_le _⟩).run (fun z9 hz9 => ?_)
                    obtain rfl : r31 = z9 := hz9.symm
                    refine lv_iload hx hb d_M_sign_155 (lv_at hl 0 rfl) ?_
                    obtain ⟨j32, q34, hF⟩ := Option.bind_eq_some_iff.mp hF
                    have k33 : ∀ (H : Heap) (locs : List Loc) (ls : Array Slot), va_P D vwC (wM A cc g8) H → va_D AA (wM A cc g8) → va_S AA s.heap H locs → lv_has ls 18 [(17, .int j27), (15, .long r24), (13, .long v23), (11, .long r21)] → W p l e rm_M_sign s m ([Value.ref (A 0), Value.int a0, Value.long a1] : List Value).toArray below meth c H locs 0 0 (MQ below (va_Ql (fun r u => (r, u) = res) (bw D (wM A cc) (kM cc) AA) AA) ([Value.ref (A 0), Value.int a0, Value.long a1] : List Value).toArray s 0 0 AA) (F0 m 165 ls [.int j32, .ref (A 0)]) := by
                      intro H locs ls hP hD hS hl
                      refine lv_lload hx hb d_M_sign_165 (lv_at hl 3 rfl) ?_
                      obtain ⟨r36, e_r36, hF⟩ := Option.bind_eq_some_iff.mp hF
                      refine vp_callSl (va_runS (As := [.long r21]) (rest := [.int j32, .ref (A 0)]) ⟨hx, hb, hml, hown, hts⟩ (k_M_xOf l r21 r36 e_r36) (va_cwS 1 hts (ga_S ww_597 ww_598 ww_4 ww_599) rfl rfl rfl (by decide +kernel) ⟨by decide, by decide⟩) (pcs_pre hN) rfl rfl hl.1 rfl (lv_room (Nat.le_of_ble_eq_true rfl)) d_M_sign_167 ⟨Nat.zero_le _, Nat.zero_le _⟩).run (fun z9 hz9 => ?_)
                      obtain rfl : r36 = z9 := hz9.symm
                      refine lv_ldc2 (v := 1073729077) hx hb hown (hw _ ww_585) d_M_sign_170 ?_
                      refine W.lcmp hx hb d_M_sign_173 ?_
                      obtain ⟨j37, q39, hF⟩ := Option.bind_eq_some_iff.mp hF
                      have k38 : ∀ (H : Heap) (locs : List Loc) (ls : Array Slot), va_P D vwC (wM A cc g8) H → va_D AA (wM A cc g8) → va_S AA s.heap H locs → lv_has ls 18 [(17, .int j27), (15, .long r24), (13, .long v23)] → W p l e rm_M_sign s m ([Value.ref (A 0), Value.int a0, Value.long a1] : List Value).toArray below meth c H locs 0 0 (MQ below (va_Ql (fun r u => (r, u) = res) (bw D (wM A cc) (kM cc) AA) AA) ([Value.ref (A 0), Value.int a0, Value.long a1] : List Value).toArray s 0 0 AA) (F0 m 182 ls [.int j37, .int j32, .ref (A 0)]) := by
                        intro H locs ls hP hD hS hl
                        refine lv_iadd hx hb d_M_sign_182 ?_
                        refine va_put (D := D) (ci := 3) (v := .int (j32 + j37)) (ty := .int) (C := R_M) (T := T_M) (N := 13) hx hb hts in_M ft_M ft_M_ok fn_M hown hK hP hD hS 0 rfl rfl 3 (by decide) (hw _ ww_537) (fun _ h9 => h9) rfl (by decide +kernel) rfl rfl (Nat.le_of_ble_eq_true rfl) d_M_sign_183 (fun H locs hP hD hS => ?_)
                        have hP : va_P D vwC (wM A cc (g8.1, g8.2.1, g8.2.2.1, (j32 + j37), g8.2.2.2.2.1, g8.2.2.2.2.2.1, g8.2.2.2.2.2.2.1, g8.2.2.2.2.2.2.2.1, g8.2.2.2.2.2.2.2.2.1, g8.2.2.2.2.2.2.2.2.2.1, g8.2.2.2.2.2.2.2.2.2.2.1, g8.2.2.2.2.2.2.2.2.2.2.2.1, g8.2.2.2.2.2.2.2.2.2.2.2.2)) H := hP
                        have hD : va_D AA (wM A cc (g8.1, g8.2.1, g8.2.2.1, (j32 + j37), g8.2.2.2.2.1, g8.2.2.2.2.2.1, g8.2.2.2.2.2.2.1, g8.2.2.2.2.2.2.2.1, g8.2.2.2.2.2.2.2.2.1, g8.2.2.2.2.2.2.2.2.2.1, g8.2.2.2.2.2.2.2.2.2.2.1, g8.2.2.2.2.2.2.2.2.2.2.2.1, g8.2.2.2.2.2.2.2.2.2.2.2.2)) := hD
                        refine lv_lload hx hb d_M_sign_186 (lv_at hl 2 rfl) ?_
                        refine lv_ldc2 (v := 4294967296) hx hb hown (hw _ ww_618) d_M_sign_188 ?_
                        refine lv_lmul hx hb d_M_sign_191 ?_
                        refine lv_iload hx hb d_M_sign_192 (lv_at hl 0 rfl) ?_
                        obtain ⟨j41, q43, hF⟩ := Option.bind_eq_some_iff.mp hF
                        have k42 : ∀ (H : Heap) (locs : List Loc) (ls : Array Slot), va_P D vwC (wM A cc (g8.1, g8.2.1, g8.2.2.1, (j32 + j37), g8.2.2.2.2.1, g8.2.2.2.2.2.1, g8.2.2.2.2.2.2.1, g8.2.2.2.2.2.2.2.1, g8.2.2.2.2.2.2.2.2.1, g8.2.2.2.2.2.2.2.2.2.1, g8.2.2.2.2.2.2.2.2.2.2.1, g8.2.2.2.2.2.2.2.2.2.2.2.1, g8.2.2.2.2.2.2.2.2.2.2.2.2)) H → va_D AA (wM A cc (g8.1, g8.2.1, g8.2.2.1, (j32 + j37), g8.2.2.2.2.1, g8.2.2.2.2.2.1, g8.2.2.2.2.2.2.1, g8.2.2.2.2.2.2.2.1, g8.2.2.2.2.2.2.2.2.1, g8.2.2.2.2.2.2.2.2.2.1, g8.2.2.2.2.2.2.2.2.2.2.1, g8.2.2.2.2.2.2.2.2.2.2.2.1, g8.2.2.2.2.2.2.2.2.2.2.2.2)) → va_S AA s.heap H locs → lv_has ls 18 [] → W p l e rm_M_sign s m ([Value.ref (A 0), Value.int a0, Value.long a1] : List Value).toArray below meth c H locs 0 0 (MQ below (va_Ql (fun r u => (r, u) = res) (bw D (wM A cc) (kM cc) AA) AA) ([Value.ref (A 0), Value.int a0, Value.long a1] : List Value).toArray s 0 0 AA) (F0 m 208 ls [.long j41, .long (v23 * 4294967296)]) := by
                          intro H locs ls hP hD hS hl
                          refine lv_ladd hx hb d_M_sign_208 ?_
                          obtain rfl := k13 _ (Option.some.inj hF).symm
                          exact W.lret hx hb hr (fun t ht hW => ⟨⟨_, _, rfl, rfl, bw_end hP hK hD ht hW⟩, hS.F ht⟩) hS.2.2 d_M_sign_209
                        clear hF
                        have hF := q43
                        refine lv_if_eq hx hb d_M_sign_194 (tgt := 206) (by decide) (fun h9 => ?_) (fun h9 => ?_)
                        · have hF := (if_pos h9).symm.trans hF
                          refine lv_lload hx hb d_M_sign_206 (lv_at hl 1 rfl) ?_
                          obtain rfl := Option.some.inj hF
                          exact k42 _ _ ls hP hD hS (lv_sub hl [] rfl)
                        · have hF := (if_neg h9).symm.trans hF
                          refine lv_ldc2 (v := 1073729077) hx hb hown (hw _ ww_585) d_M_sign_197 ?_
                          refine lv_lload hx hb d_M_sign_200 (lv_at hl 1 rfl) ?_
                          refine lv_lsub hx hb d_M_sign_202 ?_
                          refine lv_goto hx hb d_M_sign_203 (tgt := 208) (by decide) ?_
                          obtain rfl := Option.some.inj hF
                          exact k42 _ _ ls hP hD hS (lv_sub hl [] rfl)
                      clear hF
                      have hF := q39
                      refine lv_if_lt hx hb d_M_sign_174 (tgt := 181) (by decide) (fun h9 => ?_) (fun h9 => ?_)
                      · have hF := (if_pos h9).symm.trans hF
                        refine lv_iconst (v := 0) hx hb d_M_sign_181 (by decide) ?_
                        obtain rfl := Option.some.inj hF
                        exact k38 _ _ ls hP hD hS (lv_sub hl [0, 1, 2] rfl)
                      · have hF := (if_neg h9).symm.trans hF
                        refine lv_iconst (v := 2) hx hb d_M_sign_177 (by decide) ?_
                        refine lv_goto hx hb d_M_sign_178 (tgt := 182) (by decide) ?_
                        obtain rfl := Option.some.inj hF
                        exact k38 _ _ ls hP hD hS (lv_sub hl [0, 1, 2] rfl)
                    clear hF
                    have hF := q34
                    refine lv_icmp_eq hx hb d_M_sign_157 (tgt := 164) (by decide) (fun h9 => ?_) (fun h9 => ?_)
                    · have hF := (if_pos h9).symm.trans hF
                      refine lv_iconst (v := 0) hx hb d_M_sign_164 (by decide) ?_
                      obtain rfl := Option.some.inj hF
                      exact k33 _ _ ls hP hD hS (lv_sub hl [0, 1, 2, 3] rfl)
                    · have hF := (if_neg h9).symm.trans hF
                      refine lv_iconst (v := 1) hx hb d_M_sign_160 (by decide) ?_
                      refine lv_goto hx hb d_M_sign_161 (tgt := 165) (by decide) ?_
                      obtain rfl := Option.some.inj hF
                      exact k33 _ _ ls hP hD hS (lv_sub hl [0, 1, 2, 3] rfl)
                  clear hF
                  have hF := q29
                  refine lv_if_le hx hb d_M_sign_139 (tgt := 146) (by decide) (fun h9 => ?_) (fun h9 => ?_)
                  · have hF := (if_pos h9).symm.trans hF
                    refine lv_iconst (v := 0) hx hb d_M_sign_146 (by decide) ?_
                    obtain rfl := Option.some.inj hF
                    exact k28 _ _ ls hP hD hS (lv_sub hl [0, 1, 2, 7] rfl)
                  · have hF := (if_neg h9).symm.trans hF
                    refine lv_iconst (v := 1) hx hb d_M_sign_142 (by decide) ?_
                    refine lv_goto hx hb d_M_sign_143 (tgt := 147) (by decide) ?_
                    obtain rfl := Option.some.inj hF
                    exact k28 _ _ ls hP hD hS (lv_sub hl [0, 1, 2, 7] rfl)
    exact k9 65 (r2, g1.2.1, g1.2.2.1, g1.2.2.2.1, g1.2.2.2.2.1, g1.2.2.2.2.2.1, g1.2.2.2.2.2.2.1, g1.2.2.2.2.2.2.2.1, g1.2.2.2.2.2.2.2.2.1, g1.2.2.2.2.2.2.2.2.2.1, g1.2.2.2.2.2.2.2.2.2.2.1, g1.2.2.2.2.2.2.2.2.2.2.2.1, g1.2.2.2.2.2.2.2.2.2.2.2.2) 1 _ _ ls hP hD hS (lv_sub hl [0, 1, 2, 3] rfl) q45
  · have hF := (if_neg h9).symm.trans hF
    refine lv_lconst (v := 0) hx hb d_M_sign_16 (by decide) ?_
    obtain rfl := Option.some.inj hF
    exact W.lret hx hb hr (fun t ht hW => ⟨⟨_, _, rfl, rfl, bw_end hP hK hD ht hW⟩, hS.F ht⟩) hS.2.2 d_M_sign_17
def f_M_mark (g0 : sM)  : Option (Int32 × sM) := some (g0.2.2.2.1, (0, g0.2.1, g0.2.2.1, g0.2.2.2.1, g0.2.2.2.2.1, g0.2.2.2.2.2.1, g0.2.2.2.2.2.2.1, g0.2.2.2.2.2.2.2.1, g0.2.2.2.2.2.2.2.2.1, g0.2.2.2.2.2.2.2.2.2.1, g0.2.2.2.2.2.2.2.2.2.2.1, g0.2.2.2.2.2.2.2.2.2.2.2.1, g0.2.2.2.2.2.2.2.2.2.2.2.2))
abbrev rm_M_mark : Room := { frames := 0, cells := 0, slots := 0, locals := 0 }
set_option maxHeartbeats 4000000 in
set_option maxRecDepth 100000 in
theorem k_M_mark (l : Launch) (D : va_G) (A : Nat → Nat) (cc : Nat → ClassId) (g0 : sM)  (sz : Nat) (res : (Int32 × sM)) (hF : f_M_mark g0  = some res) : Met l y_M_mark (Cond.code y_M_mark b_M_mark 1 (some .int) :: wa) rm_M_mark (pw D (wM A cc g0) (kM cc) [.ref (A 0)] sz) (va_Qi (fun r u => (r, u) = res) (bw D (wM A cc) (kM cc) (va_A (wM A cc g0) sz)) (va_A (wM A cc g0) sz)) 0 0 (va_A (wM A cc g0) sz) := by
  refine Met.ofW (cc := b_M_mark) (maxL := 1) (ret := (some .int)) (by decide) rfl ?_
  intro p e s m args below meth c s₁ B hml hv
  obtain ⟨rfl, hsz, hP, hK, hD0, hN⟩ := hv
  have hx := B.exec
  have hb := B.bytes
  have hr := B.returns
  have hts := atoms_spec (ws := Cond.code y_M_mark b_M_mark 1 (some .int) :: wa) B.pre
  have hw : ∀ w ∈ wa, w.before _ s = true := fun w h => hts w (List.mem_cons_of_mem _ h)
  have hown : s.vm.findClass R_M = some m.cls := findClass_of_methodNamed B.named
  have hlocks := B.notSynchronized
  subst hsz
  have hD := hD0.self (sz := s.heap.size)
  generalize hAe : va_A (wM A cc g0) s.heap.size = AA at hD ⊢
  have hA : ∀ q : Nat, s.heap.size ≤ q → AA q := fun q h => by rw [← hAe]; exact Or.inr h
  have hS : va_S AA s.heap s.heap [] := va_S.rf
  have hl := lv_entry ([.ref (A 0)]) (n := 1) (Nat.le_of_ble_eq_true rfl)
  rw [lg_entry_eq]
  generalize (lg_sl ([.ref (A 0)]) ++ List.replicate (1 - (lg_sl ([.ref (A 0)])).length) Slot.unset).toArray = ls at hl ⊢
  have hl : lv_has ls 1 [(0, .ref (A 0))] := hl
  unfold f_M_mark at hF
  refine lv_aload_n hx hb d_M_mark_0 rfl (lv_at hl 0 rfl) ?_
  refine lv_iconst (v := 0) hx hb d_M_mark_1 (by decide) ?_
  refine va_put (D := D) (ci := 3) (v := .int 0) (ty := .int) (C := R_M) (T := T_M) (N := 13) hx hb hts in_M ft_M ft_M_ok fn_M hown hK hP hD hS 0 rfl rfl 0 (by decide) (hw _ ww_534) (fun _ h9 => h9) rfl (by decide +kernel) rfl rfl (Nat.le_of_ble_eq_true rfl) d_M_mark_2 (fun H locs hP hD hS => ?_)
  have hP : va_P D vwC (wM A cc (0, g0.2.1, g0.2.2.1, g0.2.2.2.1, g0.2.2.2.2.1, g0.2.2.2.2.2.1, g0.2.2.2.2.2.2.1, g0.2.2.2.2.2.2.2.1, g0.2.2.2.2.2.2.2.2.1, g0.2.2.2.2.2.2.2.2.2.1, g0.2.2.2.2.2.2.2.2.2.2.1, g0.2.2.2.2.2.2.2.2.2.2.2.1, g0.2.2.2.2.2.2.2.2.2.2.2.2)) H := hP
  have hD : va_D AA (wM A cc (0, g0.2.1, g0.2.2.1, g0.2.2.2.1, g0.2.2.2.2.1, g0.2.2.2.2.2.1, g0.2.2.2.2.2.2.1, g0.2.2.2.2.2.2.2.1, g0.2.2.2.2.2.2.2.2.1, g0.2.2.2.2.2.2.2.2.2.1, g0.2.2.2.2.2.2.2.2.2.2.1, g0.2.2.2.2.2.2.2.2.2.2.2.1, g0.2.2.2.2.2.2.2.2.2.2.2.2)) := hD
  refine lv_aload_n hx hb d_M_mark_5 rfl (lv_at hl 0 rfl) ?_
  refine va_get (D := D) (ci := 3) (v := .int g0.2.2.2.1) (C := R_M) (T := T_M) (N := 13) hx hb hts in_M hown hK hP 0 rfl rfl 3 (by decide) (hw _ ww_537) (fun _ h9 => h9) rfl d_M_mark_6 ?_
  obtain rfl := Option.some.inj hF
  exact W.iret hx hb hr (fun t ht hW => ⟨⟨_, _, rfl, rfl, bw_end hP hK hD ht hW⟩, hS.F ht⟩) hS.2.2 d_M_mark_9
def f_M_good (g0 : sM) (a0 : Int32) (a1 : Int64) (a2 : Int32) (a3 : Int32) : Option (Int32 × sM) := Option.bind (f_M_noPoint g0 a0) (fun t3 => match t3 with | (r2, g1) => (if r2 = 0 then (if a2 < 1 then (some (0, (r2, g1.2.1, g1.2.2.1, g1.2.2.2.1, g1.2.2.2.2.1, g1.2.2.2.2.2.1, g1.2.2.2.2.2.2.1, g1.2.2.2.2.2.2.2.1, g1.2.2.2.2.2.2.2.2.1, g1.2.2.2.2.2.2.2.2.2.1, g1.2.2.2.2.2.2.2.2.2.2.1, g1.2.2.2.2.2.2.2.2.2.2.2.1, g1.2.2.2.2.2.2.2.2.2.2.2.2))) else (if 0 ≤ (lg_cmp (Int32.toInt64 a2) 1073729077) then (some (0, (r2, g1.2.1, g1.2.2.1, g1.2.2.2.1, g1.2.2.2.2.1, g1.2.2.2.2.2.1, g1.2.2.2.2.2.2.1, g1.2.2.2.2.2.2.2.1, g1.2.2.2.2.2.2.2.2.1, g1.2.2.2.2.2.2.2.2.2.1, g1.2.2.2.2.2.2.2.2.2.2.1, g1.2.2.2.2.2.2.2.2.2.2.2.1, g1.2.2.2.2.2.2.2.2.2.2.2.2))) else (if a3 < 1 then (some (0, (r2, g1.2.1, g1.2.2.1, g1.2.2.2.1, g1.2.2.2.2.1, g1.2.2.2.2.2.1, g1.2.2.2.2.2.2.1, g1.2.2.2.2.2.2.2.1, g1.2.2.2.2.2.2.2.2.1, g1.2.2.2.2.2.2.2.2.2.1, g1.2.2.2.2.2.2.2.2.2.2.1, g1.2.2.2.2.2.2.2.2.2.2.2.1, g1.2.2.2.2.2.2.2.2.2.2.2.2))) else (if (lg_cmp (Int32.toInt64 a3) 536864538) ≤ 0 then (Option.bind (f_M_digest a1) (fun r4 => Option.bind (f_M_quotient r4 (Int32.toInt64 a3) 1073729077) (fun r5 => Option.bind (f_M_quotient (Int32.toInt64 a2) (Int32.toInt64 a3) 1073729077) (fun r6 => Option.bind (f_M_g ) (fun r7 => Option.bind (f_M_times r5 r7) (fun r8 => if a0 < 0 ∨ 6 ≤ Int32.toNatClampNeg a0 then none else (Option.bind (f_M_times r6 (g1.2.1 (Int32.toNatClampNeg a0))) (fun r10 => Option.bind (f_M_sum r8 r10) (fun r11 => Option.bind (if (lg_cmp r11 (-1)) = 0 then (some (0) : Option (Int32)) else (Option.bind (f_M_xOf r11) (fun r17 => if (lg_cmp (r17 - r17 / 1073729077 * 1073729077) (Int32.toInt64 a2)) = 0 then (some (1)) else (some (0))))) (fun j12 => if j12 = 0 ∨ j12 = 1 then some (j12, (r2, g1.2.1, g1.2.2.1, g1.2.2.2.1, g1.2.2.2.2.1, g1.2.2.2.2.2.1, g1.2.2.2.2.2.2.1, g1.2.2.2.2.2.2.2.1, g1.2.2.2.2.2.2.2.2.1, g1.2.2.2.2.2.2.2.2.2.1, g1.2.2.2.2.2.2.2.2.2.2.1, g1.2.2.2.2.2.2.2.2.2.2.2.1, g1.2.2.2.2.2.2.2.2.2.2.2.2)) else none)))))))))) else (some (0, (r2, g1.2.1, g1.2.2.1, g1.2.2.2.1, g1.2.2.2.2.1, g1.2.2.2.2.2.1, g1.2.2.2.2.2.2.1, g1.2.2.2.2.2.2.2.1, g1.2.2.2.2.2.2.2.2.1, g1.2.2.2.2.2.2.2.2.2.1, g1.2.2.2.2.2.2.2.2.2.2.1, g1.2.2.2.2.2.2.2.2.2.2.2.1, g1.2.2.2.2.2.2.2.2.2.2.2.2))))))) else (some (0, (r2, g1.2.1, g1.2.2.1, g1.2.2.2.1, g1.2.2.2.2.1, g1.2.2.2.2.2.1, g1.2.2.2.2.2.2.1, g1.2.2.2.2.2.2.2.1, g1.2.2.2.2.2.2.2.2.1, g1.2.2.2.2.2.2.2.2.2.1, g1.2.2.2.2.2.2.2.2.2.2.1, g1.2.2.2.2.2.2.2.2.2.2.2.1, g1.2.2.2.2.2.2.2.2.2.2.2.2)))))
abbrev rm_M_good : Room := { frames := 5, cells := 0, slots := 0, locals := 147 }
set_option maxHeartbeats 4000000 in
set_option maxRecDepth 100000 in
theorem k_M_good (l : Launch) (D : va_G) (A : Nat → Nat) (cc : Nat → ClassId) (g0 : sM) (a0 : Int32) (a1 : Int64) (a2 : Int32) (a3 : Int32) (sz : Nat) (res : (Int32 × sM)) (hF : f_M_good g0 a0 a1 a2 a3 = some res) : Met l y_M_good (Cond.code y_M_good b_M_good 12 (some .boolean) :: wa) rm_M_good (pw D (wM A cc g0) (kM cc) [.ref (A 0), .int a0, .long a1, .int a2, .int a3] sz) (va_Qi (fun r u => (r, u) = res) (bw D (wM A cc) (kM cc) (va_A (wM A cc g0) sz)) (va_A (wM A cc g0) sz)) 0 0 (va_A (wM A cc g0) sz) := by
  refine Met.ofW (cc := b_M_good) (maxL := 12) (ret := (some .boolean)) (by decide) rfl ?_
  intro p e s m args below meth c s₁ B hml hv
  obtain ⟨rfl, hsz, hP, hK, hD0, hN⟩ := hv
  have hx := B.exec
  have hb := B.bytes
  have hr := B.returns
  have hts := atoms_spec (ws := Cond.code y_M_good b_M_good 12 (some .boolean) :: wa) B.pre
  have hw : ∀ w ∈ wa, w.before _ s = true := fun w h => hts w (List.mem_cons_of_mem _ h)
  have hown : s.vm.findClass R_M = some m.cls := findClass_of_methodNamed B.named
  have hlocks := B.notSynchronized
  subst hsz
  have hD := hD0.self (sz := s.heap.size)
  generalize hAe : va_A (wM A cc g0) s.heap.size = AA at hD ⊢
  have hA : ∀ q : Nat, s.heap.size ≤ q → AA q := fun q h => by rw [← hAe]; exact Or.inr h
  have hS : va_S AA s.heap s.heap [] := va_S.rf
  have hl := lv_entry ([.ref (A 0), .int a0, .long a1, .int a2, .int a3]) (n := 12) (Nat.le_of_ble_eq_true rfl)
  rw [lg_entry_eq]
  generalize (lg_sl ([.ref (A 0), .int a0, .long a1, .int a2, .int a3]) ++ List.replicate (12 - (lg_sl ([.ref (A 0), .int a0, .long a1, .int a2, .int a3])).length) Slot.unset).toArray = ls at hl ⊢
  have hl : lv_has ls 12 [(0, .ref (A 0)), (1, .int a0), (2, .long a1), (4, .int a2), (5, .int a3)] := hl
  unfold f_M_good at hF
  refine lv_aload_n hx hb d_M_good_0 rfl (lv_at hl 0 rfl) ?_
  refine lv_aload_n hx hb d_M_good_1 rfl (lv_at hl 0 rfl) ?_
  refine lv_iload_n hx hb d_M_good_2 rfl (lv_at hl 1 rfl) ?_
  obtain ⟨⟨r2, g1⟩, e_g1, hF⟩ := Option.bind_eq_some_iff.mp hF
  have hFc := va_free (wc := wM A cc g0) hD hS hA [0, 1, 2, 3, 4, 5, 6, 7, 8] rfl
  refine va_calli (va_runV (As := [.int a0]) (rest := [.ref (A 0)]) ⟨hx, hb, hml, hown, hts⟩ (k_M_noPoint l D A cc g0 a0 _ (r2, g1) e_g1) (cwV 1 hts (ga_V ww_692 ww_694 wp_10 ww_4 ww_695) rfl rfl rfl (by decide +kernel) ⟨by decide, by decide⟩) (pw_pre (q0 := 0) (ci := 3) hP hK hD hN rfl rfl) rfl rfl hl.1 rfl (lv_room (Nat.le_of_ble_eq_true rfl)) d_M_good_3 ⟨Nat.zero_le _, Nat.zero_le _⟩) hS (fun q _ h => hFc q h) hFc (fun r9 u9 t H locs ht hvm hp hB hz1 hk1 hS => ?_)
  obtain ⟨rfl, rfl⟩ := Prod.mk.inj hp.symm
  obtain ⟨hP, hD⟩ := bw_back hB ht hFc
  refine va_put (D := D) (ci := 3) (v := .int r2) (ty := .int) (C := R_M) (T := T_M) (N := 13) hx hb hts in_M ft_M ft_M_ok fn_M hown hK hP hD hS 0 rfl rfl 0 (by decide) (hw _ ww_534) (fun _ h9 => h9) rfl (by decide +kernel) rfl rfl (Nat.le_of_ble_eq_true rfl) d_M_good_6 (fun H locs hP hD hS => ?_)
  have hP : va_P D vwC (wM A cc (r2, g1.2.1, g1.2.2.1, g1.2.2.2.1, g1.2.2.2.2.1, g1.2.2.2.2.2.1, g1.2.2.2.2.2.2.1, g1.2.2.2.2.2.2.2.1, g1.2.2.2.2.2.2.2.2.1, g1.2.2.2.2.2.2.2.2.2.1, g1.2.2.2.2.2.2.2.2.2.2.1, g1.2.2.2.2.2.2.2.2.2.2.2.1, g1.2.2.2.2.2.2.2.2.2.2.2.2)) H := hP
  have hD : va_D AA (wM A cc (r2, g1.2.1, g1.2.2.1, g1.2.2.2.1, g1.2.2.2.2.1, g1.2.2.2.2.2.1, g1.2.2.2.2.2.2.1, g1.2.2.2.2.2.2.2.1, g1.2.2.2.2.2.2.2.2.1, g1.2.2.2.2.2.2.2.2.2.1, g1.2.2.2.2.2.2.2.2.2.2.1, g1.2.2.2.2.2.2.2.2.2.2.2.1, g1.2.2.2.2.2.2.2.2.2.2.2.2)) := hD
  refine lv_aload_n hx hb d_M_good_9 rfl (lv_at hl 0 rfl) ?_
  refine va_get (D := D) (ci := 3) (v := .int r2) (C := R_M) (T := T_M) (N := 13) hx hb hts in_M hown hK hP 0 rfl rfl 0 (by decide) (hw _ ww_534) (fun _ h9 => h9) rfl d_M_good_10 ?_
  refine lv_if_ne hx hb d_M_good_13 (tgt := 48) (by decide) (fun h9 => ?_) (fun h9 => ?_)
  · have hF := (if_neg h9).symm.trans hF
    refine lv_iconst (v := 0) hx hb d_M_good_48 (by decide) ?_
    obtain rfl := Option.some.inj hF
    exact W.zret hx hb hr (by decide) (fun t ht hW => ⟨⟨_, _, rfl, rfl, bw_end hP hK hD ht hW⟩, hS.F ht⟩) hS.2.2 d_M_good_49
  · have hF := (if_pos h9).symm.trans hF
    refine lv_iload hx hb d_M_good_16 (lv_at hl 3 rfl) ?_
    refine lv_iconst (v := 1) hx hb d_M_good_18 (by decide) ?_
    refine lv_icmp_lt hx hb d_M_good_19 (tgt := 48) (by decide) (fun h9 => ?_) (fun h9 => ?_)
    · have hF := (if_pos h9).symm.trans hF
      refine lv_iconst (v := 0) hx hb d_M_good_48 (by decide) ?_
      obtain rfl := Option.some.inj hF
      exact W.zret hx hb hr (by decide) (fun t ht hW => ⟨⟨_, _, rfl, rfl, bw_end hP hK hD ht hW⟩, hS.F ht⟩) hS.2.2 d_M_good_49
    · have hF := (if_neg h9).symm.trans hF
      refine lv_iload hx hb d_M_good_22 (lv_at hl 3 rfl) ?_
      refine lv_i2l (v := Int32.toInt64 a2) hx hb d_M_good_24 rfl ?_
      refine lv_ldc2 (v := 1073729077) hx hb hown (hw _ ww_585) d_M_good_25 ?_
      refine W.lcmp hx hb d_M_good_28 ?_
      refine lv_if_ge hx hb d_M_good_29 (tgt := 48) (by decide) (fun h9 => ?_) (fun h9 => ?_)
      · have hF := (if_pos h9).symm.trans hF
        refine lv_iconst (v := 0) hx hb d_M_good_48 (by decide) ?_
        obtain rfl := Option.some.inj hF
        exact W.zret hx hb hr (by decide) (fun t ht hW => ⟨⟨_, _, rfl, rfl, bw_end hP hK hD ht hW⟩, hS.F ht⟩) hS.2.2 d_M_good_49
      · have hF := (if_neg h9).symm.trans hF
        refine lv_iload hx hb d_M_good_32 (lv_at hl 4 rfl) ?_
        refine lv_iconst (v := 1) hx hb d_M_good_34 (by decide) ?_
        refine lv_icmp_lt hx hb d_M_good_35 (tgt := 48) (by decide) (fun h9 => ?_) (fun h9 => ?_)
        · have hF := (if_pos h9).symm.trans hF
          refine lv_iconst (v := 0) hx hb d_M_good_48 (by decide) ?_
          obtain rfl := Option.some.inj hF
          exact W.zret hx hb hr (by decide) (fun t ht hW => ⟨⟨_, _, rfl, rfl, bw_end hP hK hD ht hW⟩, hS.F ht⟩) hS.2.2 d_M_good_49
        · have hF := (if_neg h9).symm.trans hF
          refine lv_iload hx hb d_M_good_38 (lv_at hl 4 rfl) ?_
          refine lv_i2l (v := Int32.toInt64 a3) hx hb d_M_good_40 rfl ?_
          refine lv_ldc2 (v := 536864538) hx hb hown (hw _ ww_680) d_M_good_41 ?_
          refine W.lcmp hx hb d_M_good_44 ?_
          refine lv_if_le hx hb d_M_good_45 (tgt := 50) (by decide) (fun h9 => ?_) (fun h9 => ?_)
          · have hF := (if_pos h9).symm.trans hF
            refine lv_lload_n hx hb d_M_good_50 rfl (lv_at hl 2 rfl) ?_
            obtain ⟨r4, e_r4, hF⟩ := Option.bind_eq_some_iff.mp hF
            refine vp_callSl (va_runS (As := [.long a1]) (rest := []) ⟨hx, hb, hml, hown, hts⟩ (k_M_digest l a1 r4 e_r4) (va_cwS 1 hts (ga_S ww_670 ww_671 ww_4 ww_672) rfl rfl rfl (by decide +kernel) ⟨by decide, by decide⟩) (pcs_pre hN) rfl rfl hl.1 rfl (lv_room (Nat.le_of_ble_eq_true rfl)) d_M_good_51 ⟨Nat.zero_le _, Nat.zero_le _⟩).run (fun z9 hz9 => ?_)
            obtain rfl : r4 = z9 := hz9.symm
            refine lv_iload hx hb d_M_good_54 (lv_at hl 4 rfl) ?_
            refine lv_i2l (v := Int32.toInt64 a3) hx hb d_M_good_56 rfl ?_
            refine lv_ldc2 (v := 1073729077) hx hb hown (hw _ ww_585) d_M_good_57 ?_
            obtain ⟨r5, e_r5, hF⟩ := Option.bind_eq_some_iff.mp hF
            refine vp_callSl (va_runS (As := [.long r4, .long (Int32.toInt64 a3), .long 1073729077]) (rest := []) ⟨hx, hb, hml, hown, hts⟩ (k_M_quotient l r4 (Int32.toInt64 a3) 1073729077 r5 e_r5) (va_cwS 3 hts (ga_S ww_606 ww_607 ww_4 ww_608) rfl rfl rfl (by decide +kernel) ⟨by decide, by decide⟩) (pcs_pre hN) rfl rfl hl.1 rfl (lv_room (Nat.le_of_ble_eq_true rfl)) d_M_good_60 ⟨Nat.zero_le _, Nat.zero_le _⟩).run (fun z9 hz9 => ?_)
            obtain rfl : r5 = z9 := hz9.symm
            refine lv_lstore hx hb d_M_good_63 hl (by decide) (lv' := [(6, .long r5), (0, .ref (A 0)), (1, .int a0), (2, .long a1), (4, .int a2), (5, .int a3)]) rfl (fun ls hl => ?_)
            refine lv_iload hx hb d_M_good_65 (lv_at hl 4 rfl) ?_
            refine lv_i2l (v := Int32.toInt64 a2) hx hb d_M_good_67 rfl ?_
            refine lv_iload hx hb d_M_good_68 (lv_at hl 5 rfl) ?_
            refine lv_i2l (v := Int32.toInt64 a3) hx hb d_M_good_70 rfl ?_
            refine lv_ldc2 (v := 1073729077) hx hb hown (hw _ ww_585) d_M_good_71 ?_
            obtain ⟨r6, e_r6, hF⟩ := Option.bind_eq_some_iff.mp hF
            refine vp_callSl (va_runS (As := [.long (Int32.toInt64 a2), .long (Int32.toInt64 a3), .long 1073729077]) (rest := []) ⟨hx, hb, hml, hown, hts⟩ (k_M_quotient l (Int32.toInt64 a2) (Int32.toInt64 a3) 1073729077 r6 e_r6) (va_cwS 3 hts (ga_S ww_606 ww_607 ww_4 ww_608) rfl rfl rfl (by decide +kernel) ⟨by decide, by decide⟩) (pcs_pre hN) rfl rfl hl.1 rfl (lv_room (Nat.le_of_ble_eq_true rfl)) d_M_good_74 ⟨Nat.zero_le _, Nat.zero_le _⟩).run (fun z9 hz9 => ?_)
            obtain rfl : r6 = z9 := hz9.symm
            refine lv_lstore hx hb d_M_good_77 hl (by decide) (lv' := [(8, .long r6), (6, .long r5), (0, .ref (A 0)), (1, .int a0), (2, .long a1), (4, .int a2), (5, .int a3)]) rfl (fun ls hl => ?_)
            refine lv_lload hx hb d_M_good_79 (lv_at hl 1 rfl) ?_
            obtain ⟨r7, e_r7, hF⟩ := Option.bind_eq_some_iff.mp hF
            refine vp_callSl (va_runS (As := []) (rest := [.long r5]) ⟨hx, hb, hml, hown, hts⟩ (k_M_g l  r7 e_r7) (va_cwS 0 hts (ga_S ww_586 ww_587 ww_4 ww_588) rfl rfl rfl (by decide +kernel) ⟨by decide, by decide⟩) (pcs_pre hN) rfl rfl hl.1 rfl (lv_room (Nat.le_of_ble_eq_true rfl)) d_M_good_81 ⟨Nat.zero_le _, Nat.zero_le _⟩).run (fun z9 hz9 => ?_)
            obtain rfl : r7 = z9 := hz9.symm
            obtain ⟨r8, e_r8, hF⟩ := Option.bind_eq_some_iff.mp hF
            refine vp_callSl (va_runS (As := [.long r5, .long r7]) (rest := []) ⟨hx, hb, hml, hown, hts⟩ (k_M_times l r5 r7 r8 e_r8) (va_cwS 2 hts (ga_S ww_590 ww_591 ww_4 ww_592) rfl rfl rfl (by decide +kernel) ⟨by decide, by decide⟩) (pcs_pre hN) rfl rfl hl.1 rfl (lv_room (Nat.le_of_ble_eq_true rfl)) d_M_good_84 ⟨Nat.zero_le _, Nat.zero_le _⟩).run (fun z9 hz9 => ?_)
            obtain rfl : r8 = z9 := hz9.symm
            refine lv_lload hx hb d_M_good_87 (lv_at hl 0 rfl) ?_
            refine lv_aload_n hx hb d_M_good_89 rfl (lv_at hl 2 rfl) ?_
            refine va_get (D := D) (ci := 3) (v := .ref (A 1)) (C := R_M) (T := T_M) (N := 13) hx hb hts in_M hown hK hP 0 rfl rfl 1 (by decide) (hw _ ww_535) (fun _ h9 => h9) rfl d_M_good_90 ?_
            refine lv_iload_n hx hb d_M_good_93 rfl (lv_at hl 3 rfl) ?_
            by_cases h9 : a0 < 0 ∨ 6 ≤ Int32.toNatClampNeg a0
            · have h0 := (if_pos h9).symm.trans hF; cases h0
            have hF := (if_neg h9).symm.trans hF
            refine va_lald hx hb hK hP 1 0 rfl rfl h9 d_M_good_94 ?_
            obtain ⟨r10, e_r10, hF⟩ := Option.bind_eq_some_iff.mp hF
            refine vp_callSl (va_runS (As := [.long r6, .long (g1.2.1 (Int32.toNatClampNeg a0))]) (rest := [.long r8]) ⟨hx, hb, hml, hown, hts⟩ (k_M_times l r6 (g1.2.1 (Int32.toNatClampNeg a0)) r10 e_r10) (va_cwS 2 hts (ga_S ww_590 ww_591 ww_4 ww_592) rfl rfl rfl (by decide +kernel) ⟨by decide, by decide⟩) (pcs_pre hN) rfl rfl hl.1 rfl (lv_room (Nat.le_of_ble_eq_true rfl)) d_M_good_95 ⟨Nat.zero_le _, Nat.zero_le _⟩).run (fun z9 hz9 => ?_)
            obtain rfl : r10 = z9 := hz9.symm
            obtain ⟨r11, e_r11, hF⟩ := Option.bind_eq_some_iff.mp hF
            refine vp_callSl (va_runS (As := [.long r8, .long r10]) (rest := []) ⟨hx, hb, hml, hown, hts⟩ (k_M_sum l r8 r10 r11 e_r11) (va_cwS 2 hts (ga_S ww_594 ww_595 ww_4 ww_596) rfl rfl rfl (by decide +kernel) ⟨by decide, by decide⟩) (pcs_pre hN) rfl rfl hl.1 rfl (lv_room (Nat.le_of_ble_eq_true rfl)) d_M_good_98 ⟨Nat.zero_le _, Nat.zero_le _⟩).run (fun z9 hz9 => ?_)
            obtain rfl : r11 = z9 := hz9.symm
            refine lv_lstore hx hb d_M_good_101 hl (by decide) (lv' := [(10, .long r11), (8, .long r6), (6, .long r5), (0, .ref (A 0)), (1, .int a0), (2, .long a1), (4, .int a2), (5, .int a3)]) rfl (fun ls hl => ?_)
            refine lv_lload hx hb d_M_good_103 (lv_at hl 0 rfl) ?_
            refine lv_ldc2 (v := (-1)) hx hb hown (hw _ ww_533) d_M_good_105 ?_
            refine W.lcmp hx hb d_M_good_108 ?_
            obtain ⟨j12, q14, hF⟩ := Option.bind_eq_some_iff.mp hF
            have k13 : ∀ (H : Heap) (locs : List Loc) (ls : Array Slot), va_P D vwC (wM A cc (r2, g1.2.1, g1.2.2.1, g1.2.2.2.1, g1.2.2.2.2.1, g1.2.2.2.2.2.1, g1.2.2.2.2.2.2.1, g1.2.2.2.2.2.2.2.1, g1.2.2.2.2.2.2.2.2.1, g1.2.2.2.2.2.2.2.2.2.1, g1.2.2.2.2.2.2.2.2.2.2.1, g1.2.2.2.2.2.2.2.2.2.2.2.1, g1.2.2.2.2.2.2.2.2.2.2.2.2)) H → va_D AA (wM A cc (r2, g1.2.1, g1.2.2.1, g1.2.2.2.1, g1.2.2.2.2.1, g1.2.2.2.2.2.1, g1.2.2.2.2.2.2.1, g1.2.2.2.2.2.2.2.1, g1.2.2.2.2.2.2.2.2.1, g1.2.2.2.2.2.2.2.2.2.1, g1.2.2.2.2.2.2.2.2.2.2.1, g1.2.2.2.2.2.2.2.2.2.2.2.1, g1.2.2.2.2.2.2.2.2.2.2.2.2)) → va_S AA s.heap H locs → lv_has ls 12 [] → W p l e rm_M_good s m ([Value.ref (A 0), Value.int a0, Value.long a1, Value.int a2, Value.int a3] : List Value).toArray below meth c H locs 0 0 (MQ below (va_Qi (fun r u => (r, u) = res) (bw D (wM A cc) (kM cc) AA) AA) ([Value.ref (A 0), Value.int a0, Value.long a1, Value.int a2, Value.int a3] : List Value).toArray s 0 0 AA) (F0 m 133 ls [.int j12]) := by
              intro H locs ls hP hD hS hl
              by_cases h16 : ¬ (j12 = 0 ∨ j12 = 1)
              · have h0 := (if_neg h16).symm.trans hF; cases h0
              have h16 := Classical.not_not.mp h16
              have hF := (if_pos h16).symm.trans hF
              obtain rfl := Option.some.inj hF
              exact W.zret hx hb hr (nz_b h16) (fun t ht hW => ⟨⟨_, _, rfl, rfl, bw_end hP hK hD ht hW⟩, hS.F ht⟩) hS.2.2 d_M_good_133
            clear hF
            have hF := q14
            refine lv_if_eq hx hb d_M_good_109 (tgt := 132) (by decide) (fun h9 => ?_) (fun h9 => ?_)
            · have hF := (if_pos h9).symm.trans hF
              refine lv_iconst (v := 0) hx hb d_M_good_132 (by decide) ?_
              obtain rfl := Option.some.inj hF
              exact k13 _ _ ls hP hD hS (lv_sub hl [] rfl)
            · have hF := (if_neg h9).symm.trans hF
              refine lv_lload hx hb d_M_good_112 (lv_at hl 0 rfl) ?_
              obtain ⟨r17, e_r17, hF⟩ := Option.bind_eq_some_iff.mp hF
              refine vp_callSl (va_runS (As := [.long r11]) (rest := []) ⟨hx, hb, hml, hown, hts⟩ (k_M_xOf l r11 r17 e_r17) (va_cwS 1 hts (ga_S ww_597 ww_598 ww_4 ww_599) rfl rfl rfl (by decide +kernel) ⟨by decide, by decide⟩) (pcs_pre hN) rfl rfl hl.1 rfl (lv_room (Nat.le_of_ble_eq_true rfl)) d_M_good_114 ⟨Nat.zero_le _, Nat.zero_le _⟩).run (fun z9 hz9 => ?_)
              obtain rfl : r17 = z9 := hz9.symm
              refine lv_ldc2 (v := 1073729077) hx hb hown (hw _ ww_585) d_M_good_117 ?_
              refine lv_lrem hx hb d_M_good_120 (by decide) ?_
              refine lv_iload hx hb d_M_good_121 (lv_at hl 6 rfl) ?_
              refine lv_i2l (v := Int32.toInt64 a2) hx hb d_M_good_123 rfl ?_
              refine W.lcmp hx hb d_M_good_124 ?_
              refine lv_if_ne hx hb d_M_good_125 (tgt := 132) (by decide) (fun h9 => ?_) (fun h9 => ?_)
              · have hF := (if_neg h9).symm.trans hF
                refine lv_iconst (v := 0) hx hb d_M_good_132 (by decide) ?_
                obtain rfl := Option.some.inj hF
                exact k13 _ _ ls hP hD hS (lv_sub hl [] rfl)
              · have hF := (if_pos h9).symm.trans hF
                refine lv_iconst (v := 1) hx hb d_M_good_128 (by decide) ?_
                refine lv_goto hx hb d_M_good_129 (tgt := 133) (by decide) ?_
                obtain rfl := Option.some.inj hF
                exact k13 _ _ ls hP hD hS (lv_sub hl [] rfl)
          · have hF := (if_neg h9).symm.trans hF
            refine lv_iconst (v := 0) hx hb d_M_good_48 (by decide) ?_
            obtain rfl := Option.some.inj hF
            exact W.zret hx hb hr (by decide) (fun t ht hW => ⟨⟨_, _, rfl, rfl, bw_end hP hK hD ht hW⟩, hS.F ht⟩) hS.2.2 d_M_good_49
def f_M_recover (g0 : sM) (a0 : Int32) (a1 : Int64) (a2 : Int32) (a3 : Int32) (a4 : Int32) : Option (Int64 × sM) := Option.bind (if a2 < 1 then (some (0) : Option (Int32)) else (if 0 ≤ (lg_cmp (Int32.toInt64 a2) 1073729077) then (some (0)) else (if a3 < 1 then (some (0)) else (if 0 ≤ (lg_cmp (Int32.toInt64 a3) 1073729077) then (some (0)) else (if a4 < 0 then (some (0)) else (if 3 < a4 then (some (0)) else (some (1)))))))) (fun j1 => Option.bind (f_M_isSlot a0) (fun r5 => Option.bind (if r5 = 0 then (some (1) : Option (Int32)) else (if j1 = 0 then (some (2)) else (some (0)))) (fun j6 => if j6 = 0 then (Option.bind (if a4 ≤ 1 then (some (Int32.toInt64 a2) : Option (Int64)) else (some ((Int32.toInt64 a2) + 1073729077))) (fun j10 => Option.bind (if (a4 - a4 / 2 * 2) = 1 then (some (1) : Option (Int32)) else (some (0))) (fun j14 => Option.bind (f_M_lift j10 j14) (fun r18 => Option.bind (f_M_quotient (Int32.toInt64 a3) (Int32.toInt64 a2) 1073729077) (fun r19 => Option.bind (f_M_digest a1) (fun r20 => Option.bind (f_M_quotient (1073729077 - (r20 - r20 / 1073729077 * 1073729077)) (Int32.toInt64 a2) 1073729077) (fun r21 => Option.bind (if (lg_cmp r18 (-1)) = 0 then (some ((-1)) : Option (Int64)) else (Option.bind (f_M_times r19 r18) (fun r32 => Option.bind (f_M_g ) (fun r33 => Option.bind (f_M_times r21 r33) (fun r34 => Option.bind (f_M_sum r32 r34) (fun r35 => some (r35))))))) (fun j22 => Option.bind (if (lg_cmp j22 (-1)) = 0 then (some (2) : Option (Int32)) else (some (0))) (fun j26 => if j26 = 0 then (Option.bind (f_M_lay (j26, g0.2.1, g0.2.2.1, g0.2.2.2.1, g0.2.2.2.2.1, g0.2.2.2.2.2.1, g0.2.2.2.2.2.2.1, g0.2.2.2.2.2.2.2.1, g0.2.2.2.2.2.2.2.2.1, g0.2.2.2.2.2.2.2.2.2.1, g0.2.2.2.2.2.2.2.2.2.2.1, g0.2.2.2.2.2.2.2.2.2.2.2.1, g0.2.2.2.2.2.2.2.2.2.2.2.2) a0 j22) (fun g30 => Option.bind (f_M_codeOf j22) (fun r31 => some (r31, g30)))) else (some (0, (j26, g0.2.1, g0.2.2.1, g0.2.2.2.1, g0.2.2.2.2.1, g0.2.2.2.2.2.1, g0.2.2.2.2.2.2.1, g0.2.2.2.2.2.2.2.1, g0.2.2.2.2.2.2.2.2.1, g0.2.2.2.2.2.2.2.2.2.1, g0.2.2.2.2.2.2.2.2.2.2.1, g0.2.2.2.2.2.2.2.2.2.2.2.1, g0.2.2.2.2.2.2.2.2.2.2.2.2)))))))))))) else (some (0, (j6, g0.2.1, g0.2.2.1, g0.2.2.2.1, g0.2.2.2.2.1, g0.2.2.2.2.2.1, g0.2.2.2.2.2.2.1, g0.2.2.2.2.2.2.2.1, g0.2.2.2.2.2.2.2.2.1, g0.2.2.2.2.2.2.2.2.2.1, g0.2.2.2.2.2.2.2.2.2.2.1, g0.2.2.2.2.2.2.2.2.2.2.2.1, g0.2.2.2.2.2.2.2.2.2.2.2.2))))))
abbrev rm_M_recover : Room := { frames := 5, cells := 0, slots := 0, locals := 147 }
set_option maxHeartbeats 4000000 in
set_option maxRecDepth 100000 in
theorem k_M_recover (l : Launch) (D : va_G) (A : Nat → Nat) (cc : Nat → ClassId) (g0 : sM) (a0 : Int32) (a1 : Int64) (a2 : Int32) (a3 : Int32) (a4 : Int32) (sz : Nat) (res : (Int64 × sM)) (hF : f_M_recover g0 a0 a1 a2 a3 a4 = some res) : Met l y_M_recover (Cond.code y_M_recover b_M_recover 16 (some .long) :: wa) rm_M_recover (pw D (wM A cc g0) (kM cc) [.ref (A 0), .int a0, .long a1, .int a2, .int a3, .int a4] sz) (va_Ql (fun r u => (r, u) = res) (bw D (wM A cc) (kM cc) (va_A (wM A cc g0) sz)) (va_A (wM A cc g0) sz)) 0 0 (va_A (wM A cc g0) sz) := by
  refine Met.ofW (cc := b_M_recover) (maxL := 16) (ret := (some .long)) (by decide) rfl ?_
  intro p e s m args below meth c s₁ B hml hv
  obtain ⟨rfl, hsz, hP, hK, hD0, hN⟩ := hv
  have hx := B.exec
  have hb := B.bytes
  have hr := B.returns
  have hts := atoms_spec (ws := Cond.code y_M_recover b_M_recover 16 (some .long) :: wa) B.pre
  have hw : ∀ w ∈ wa, w.before _ s = true := fun w h => hts w (List.mem_cons_of_mem _ h)
  have hown : s.vm.findClass R_M = some m.cls := findClass_of_methodNamed B.named
  have hlocks := B.notSynchronized
  subst hsz
  have hD := hD0.self (sz := s.heap.size)
  generalize hAe : va_A (wM A cc g0) s.heap.size = AA at hD ⊢
  have hA : ∀ q : Nat, s.heap.size ≤ q → AA q := fun q h => by rw [← hAe]; exact Or.inr h
  have hS : va_S AA s.heap s.heap [] := va_S.rf
  have hl := lv_entry ([.ref (A 0), .int a0, .long a1, .int a2, .int a3, .int a4]) (n := 16) (Nat.le_of_ble_eq_true rfl)
  rw [lg_entry_eq]
  generalize (lg_sl ([.ref (A 0), .int a0, .long a1, .int a2, .int a3, .int a4]) ++ List.replicate (16 - (lg_sl ([.ref (A 0), .int a0, .long a1, .int a2, .int a3, .int a4])).length) Slot.unset).toArray = ls at hl ⊢
  have hl : lv_has ls 16 [(0, .ref (A 0)), (1, .int a0), (2, .long a1), (4, .int a2), (5, .int a3), (6, .int a4)] := hl
  unfold f_M_recover at hF
  refine lv_iload hx hb d_M_recover_0 (lv_at hl 3 rfl) ?_
  refine lv_iconst (v := 1) hx hb d_M_recover_2 (by decide) ?_
  obtain ⟨j1, q3, hF⟩ := Option.bind_eq_some_iff.mp hF
  have k2 : ∀ (H : Heap) (locs : List Loc) (ls : Array Slot), va_P D vwC (wM A cc g0) H → va_D AA (wM A cc g0) → va_S AA s.heap H locs → lv_has ls 16 [(0, .ref (A 0)), (1, .int a0), (2, .long a1), (4, .int a2), (5, .int a3), (6, .int a4)] → W p l e rm_M_recover s m ([Value.ref (A 0), Value.int a0, Value.long a1, Value.int a2, Value.int a3, Value.int a4] : List Value).toArray below meth c H locs 0 0 (MQ below (va_Ql (fun r u => (r, u) = res) (bw D (wM A cc) (kM cc) AA) AA) ([Value.ref (A 0), Value.int a0, Value.long a1, Value.int a2, Value.int a3, Value.int a4] : List Value).toArray s 0 0 AA) (F0 m 48 ls [.int j1]) := by
    intro H locs ls hP hD hS hl
    refine lv_istore hx hb d_M_recover_48 hl (by decide) (lv' := [(7, .int j1), (0, .ref (A 0)), (1, .int a0), (2, .long a1), (4, .int a2), (5, .int a3), (6, .int a4)]) rfl (fun ls hl => ?_)
    refine lv_aload_n hx hb d_M_recover_50 rfl (lv_at hl 1 rfl) ?_
    refine lv_iload_n hx hb d_M_recover_51 rfl (lv_at hl 2 rfl) ?_
    obtain ⟨r5, e_r5, hF⟩ := Option.bind_eq_some_iff.mp hF
    refine vp_callSi (va_runS (As := [.int a0]) (rest := [.ref (A 0)]) ⟨hx, hb, hml, hown, hts⟩ (k_M_isSlot l a0 r5 e_r5) (va_cwS 1 hts (ga_S ww_582 ww_583 ww_4 ww_584) rfl rfl rfl (by decide +kernel) ⟨by decide, by decide⟩) (pcs_pre hN) rfl rfl hl.1 rfl (lv_room (Nat.le_of_ble_eq_true rfl)) d_M_recover_52 ⟨Nat.zero_le _, Nat.zero_le _⟩).run (fun z9 hz9 => ?_)
    obtain rfl : r5 = z9 := hz9.symm
    obtain ⟨j6, q8, hF⟩ := Option.bind_eq_some_iff.mp hF
    have k7 : ∀ (H : Heap) (locs : List Loc) (ls : Array Slot), va_P D vwC (wM A cc g0) H → va_D AA (wM A cc g0) → va_S AA s.heap H locs → lv_has ls 16 [(0, .ref (A 0)), (1, .int a0), (2, .long a1), (4, .int a2), (5, .int a3), (6, .int a4)] → W p l e rm_M_recover s m ([Value.ref (A 0), Value.int a0, Value.long a1, Value.int a2, Value.int a3, Value.int a4] : List Value).toArray below meth c H locs 0 0 (MQ below (va_Ql (fun r u => (r, u) = res) (bw D (wM A cc) (kM cc) AA) AA) ([Value.ref (A 0), Value.int a0, Value.long a1, Value.int a2, Value.int a3, Value.int a4] : List Value).toArray s 0 0 AA) (F0 m 72 ls [.int j6, .ref (A 0)]) := by
      intro H locs ls hP hD hS hl
      refine va_put (D := D) (ci := 3) (v := .int j6) (ty := .int) (C := R_M) (T := T_M) (N := 13) hx hb hts in_M ft_M ft_M_ok fn_M hown hK hP hD hS 0 rfl rfl 0 (by decide) (hw _ ww_534) (fun _ h9 => h9) rfl (by decide +kernel) rfl rfl (Nat.le_of_ble_eq_true rfl) d_M_recover_72 (fun H locs hP hD hS => ?_)
      have hP : va_P D vwC (wM A cc (j6, g0.2.1, g0.2.2.1, g0.2.2.2.1, g0.2.2.2.2.1, g0.2.2.2.2.2.1, g0.2.2.2.2.2.2.1, g0.2.2.2.2.2.2.2.1, g0.2.2.2.2.2.2.2.2.1, g0.2.2.2.2.2.2.2.2.2.1, g0.2.2.2.2.2.2.2.2.2.2.1, g0.2.2.2.2.2.2.2.2.2.2.2.1, g0.2.2.2.2.2.2.2.2.2.2.2.2)) H := hP
      have hD : va_D AA (wM A cc (j6, g0.2.1, g0.2.2.1, g0.2.2.2.1, g0.2.2.2.2.1, g0.2.2.2.2.2.1, g0.2.2.2.2.2.2.1, g0.2.2.2.2.2.2.2.1, g0.2.2.2.2.2.2.2.2.1, g0.2.2.2.2.2.2.2.2.2.1, g0.2.2.2.2.2.2.2.2.2.2.1, g0.2.2.2.2.2.2.2.2.2.2.2.1, g0.2.2.2.2.2.2.2.2.2.2.2.2)) := hD
      refine lv_aload_n hx hb d_M_recover_75 rfl (lv_at hl 0 rfl) ?_
      refine va_get (D := D) (ci := 3) (v := .int j6) (C := R_M) (T := T_M) (N := 13) hx hb hts in_M hown hK hP 0 rfl rfl 0 (by decide) (hw _ ww_534) (fun _ h9 => h9) rfl d_M_recover_76 ?_
      refine lv_if_eq hx hb d_M_recover_79 (tgt := 84) (by decide) (fun h9 => ?_) (fun h9 => ?_)
      · have hF := (if_pos h9).symm.trans hF
        refine lv_iload hx hb d_M_recover_84 (lv_at hl 5 rfl) ?_
        refine lv_iconst (v := 1) hx hb d_M_recover_86 (by decide) ?_
        obtain ⟨j10, q12, hF⟩ := Option.bind_eq_some_iff.mp hF
        have k11 : ∀ (H : Heap) (locs : List Loc) (ls : Array Slot), va_P D vwC (wM A cc (j6, g0.2.1, g0.2.2.1, g0.2.2.2.1, g0.2.2.2.2.1, g0.2.2.2.2.2.1, g0.2.2.2.2.2.2.1, g0.2.2.2.2.2.2.2.1, g0.2.2.2.2.2.2.2.2.1, g0.2.2.2.2.2.2.2.2.2.1, g0.2.2.2.2.2.2.2.2.2.2.1, g0.2.2.2.2.2.2.2.2.2.2.2.1, g0.2.2.2.2.2.2.2.2.2.2.2.2)) H → va_D AA (wM A cc (j6, g0.2.1, g0.2.2.1, g0.2.2.2.1, g0.2.2.2.2.1, g0.2.2.2.2.2.1, g0.2.2.2.2.2.2.1, g0.2.2.2.2.2.2.2.1, g0.2.2.2.2.2.2.2.2.1, g0.2.2.2.2.2.2.2.2.2.1, g0.2.2.2.2.2.2.2.2.2.2.1, g0.2.2.2.2.2.2.2.2.2.2.2.1, g0.2.2.2.2.2.2.2.2.2.2.2.2)) → va_S AA s.heap H locs → lv_has ls 16 [(0, .ref (A 0)), (1, .int a0), (2, .long a1), (4, .int a2), (5, .int a3), (6, .int a4)] → W p l e rm_M_recover s m ([Value.ref (A 0), Value.int a0, Value.long a1, Value.int a2, Value.int a3, Value.int a4] : List Value).toArray below meth c H locs 0 0 (MQ below (va_Ql (fun r u => (r, u) = res) (bw D (wM A cc) (kM cc) AA) AA) ([Value.ref (A 0), Value.int a0, Value.long a1, Value.int a2, Value.int a3, Value.int a4] : List Value).toArray s 0 0 AA) (F0 m 103 ls [.long j10]) := by
          intro H locs ls hP hD hS hl
          refine lv_iload hx hb d_M_recover_103 (lv_at hl 5 rfl) ?_
          refine lv_iconst (v := 2) hx hb d_M_recover_105 (by decide) ?_
          refine lv_irem hx hb d_M_recover_106 (by decide) ?_
          refine lv_iconst (v := 1) hx hb d_M_recover_107 (by decide) ?_
          obtain ⟨j14, q16, hF⟩ := Option.bind_eq_some_iff.mp hF
          have k15 : ∀ (H : Heap) (locs : List Loc) (ls : Array Slot), va_P D vwC (wM A cc (j6, g0.2.1, g0.2.2.1, g0.2.2.2.1, g0.2.2.2.2.1, g0.2.2.2.2.2.1, g0.2.2.2.2.2.2.1, g0.2.2.2.2.2.2.2.1, g0.2.2.2.2.2.2.2.2.1, g0.2.2.2.2.2.2.2.2.2.1, g0.2.2.2.2.2.2.2.2.2.2.1, g0.2.2.2.2.2.2.2.2.2.2.2.1, g0.2.2.2.2.2.2.2.2.2.2.2.2)) H → va_D AA (wM A cc (j6, g0.2.1, g0.2.2.1, g0.2.2.2.1, g0.2.2.2.2.1, g0.2.2.2.2.2.1, g0.2.2.2.2.2.2.1, g0.2.2.2.2.2.2.2.1, g0.2.2.2.2.2.2.2.2.1, g0.2.2.2.2.2.2.2.2.2.1, g0.2.2.2.2.2.2.2.2.2.2.1, g0.2.2.2.2.2.2.2.2.2.2.2.1, g0.2.2.2.2.2.2.2.2.2.2.2.2)) → va_S AA s.heap H locs → lv_has ls 16 [(0, .ref (A 0)), (1, .int a0), (2, .long a1), (4, .int a2), (5, .int a3)] → W p l e rm_M_recover s m ([Value.ref (A 0), Value.int a0, Value.long a1, Value.int a2, Value.int a3, Value.int a4] : List Value).toArray below meth c H locs 0 0 (MQ below (va_Ql (fun r u => (r, u) = res) (bw D (wM A cc) (kM cc) AA) AA) ([Value.ref (A 0), Value.int a0, Value.long a1, Value.int a2, Value.int a3, Value.int a4] : List Value).toArray s 0 0 AA) (F0 m 116 ls [.int j14, .long j10]) := by
            intro H locs ls hP hD hS hl
            obtain ⟨r18, e_r18, hF⟩ := Option.bind_eq_some_iff.mp hF
            refine vp_callSl (va_runS (As := [.long j10, .int j14]) (rest := []) ⟨hx, hb, hml, hown, hts⟩ (k_M_lift l j10 j14 r18 e_r18) (va_cwS 2 hts (ga_S ww_626 ww_627 ww_4 ww_628) rfl rfl rfl (by decide +kernel) ⟨by decide, by decide⟩) (pcs_pre hN) rfl rfl hl.1 rfl (lv_room (Nat.le_of_ble_eq_true rfl)) d_M_recover_116 ⟨Nat.zero_le _, Nat.zero_le _⟩).run (fun z9 hz9 => ?_)
            obtain rfl : r18 = z9 := hz9.symm
            refine lv_lstore hx hb d_M_recover_119 hl (by decide) (lv' := [(8, .long r18), (0, .ref (A 0)), (1, .int a0), (2, .long a1), (4, .int a2), (5, .int a3)]) rfl (fun ls hl => ?_)
            refine lv_iload hx hb d_M_recover_121 (lv_at hl 5 rfl) ?_
            refine lv_i2l (v := Int32.toInt64 a3) hx hb d_M_recover_123 rfl ?_
            refine lv_iload hx hb d_M_recover_124 (lv_at hl 4 rfl) ?_
            refine lv_i2l (v := Int32.toInt64 a2) hx hb d_M_recover_126 rfl ?_
            refine lv_ldc2 (v := 1073729077) hx hb hown (hw _ ww_585) d_M_recover_127 ?_
            obtain ⟨r19, e_r19, hF⟩ := Option.bind_eq_some_iff.mp hF
            refine vp_callSl (va_runS (As := [.long (Int32.toInt64 a3), .long (Int32.toInt64 a2), .long 1073729077]) (rest := []) ⟨hx, hb, hml, hown, hts⟩ (k_M_quotient l (Int32.toInt64 a3) (Int32.toInt64 a2) 1073729077 r19 e_r19) (va_cwS 3 hts (ga_S ww_606 ww_607 ww_4 ww_608) rfl rfl rfl (by decide +kernel) ⟨by decide, by decide⟩) (pcs_pre hN) rfl rfl hl.1 rfl (lv_room (Nat.le_of_ble_eq_true rfl)) d_M_recover_130 ⟨Nat.zero_le _, Nat.zero_le _⟩).run (fun z9 hz9 => ?_)
            obtain rfl : r19 = z9 := hz9.symm
            refine lv_lstore hx hb d_M_recover_133 hl (by decide) (lv' := [(10, .long r19), (8, .long r18), (0, .ref (A 0)), (1, .int a0), (2, .long a1), (4, .int a2), (5, .int a3)]) rfl (fun ls hl => ?_)
            refine lv_ldc2 (v := 1073729077) hx hb hown (hw _ ww_585) d_M_recover_135 ?_
            refine lv_lload_n hx hb d_M_recover_138 rfl (lv_at hl 4 rfl) ?_
            obtain ⟨r20, e_r20, hF⟩ := Option.bind_eq_some_iff.mp hF
            refine vp_callSl (va_runS (As := [.long a1]) (rest := [.long 1073729077]) ⟨hx, hb, hml, hown, hts⟩ (k_M_digest l a1 r20 e_r20) (va_cwS 1 hts (ga_S ww_670 ww_671 ww_4 ww_672) rfl rfl rfl (by decide +kernel) ⟨by decide, by decide⟩) (pcs_pre hN) rfl rfl hl.1 rfl (lv_room (Nat.le_of_ble_eq_true rfl)) d_M_recover_139 ⟨Nat.zero_le _, Nat.zero_le _⟩).run (fun z9 hz9 => ?_)
            obtain rfl : r20 = z9 := hz9.symm
            refine lv_ldc2 (v := 1073729077) hx hb hown (hw _ ww_585) d_M_recover_142 ?_
            refine lv_lrem hx hb d_M_recover_145 (by decide) ?_
            refine lv_lsub hx hb d_M_recover_146 ?_
            refine lv_iload hx hb d_M_recover_147 (lv_at hl 5 rfl) ?_
            refine lv_i2l (v := Int32.toInt64 a2) hx hb d_M_recover_149 rfl ?_
            refine lv_ldc2 (v := 1073729077) hx hb hown (hw _ ww_585) d_M_recover_150 ?_
            obtain ⟨r21, e_r21, hF⟩ := Option.bind_eq_some_iff.mp hF
            refine vp_callSl (va_runS (As := [.long (1073729077 - (r20 - r20 / 1073729077 * 1073729077)), .long (Int32.toInt64 a2), .long 1073729077]) (rest := []) ⟨hx, hb, hml, hown, hts⟩ (k_M_quotient l (1073729077 - (r20 - r20 / 1073729077 * 1073729077)) (Int32.toInt64 a2) 1073729077 r21 e_r21) (va_cwS 3 hts (ga_S ww_606 ww_607 ww_4 ww_608) rfl rfl rfl (by decide +kernel) ⟨by decide, by decide⟩) (pcs_pre hN) rfl rfl hl.1 rfl (lv_room (Nat.le_of_ble_eq_true rfl)) d_M_recover_153 ⟨Nat.zero_le _, Nat.zero_le _⟩).run (fun z9 hz9 => ?_)
            obtain rfl : r21 = z9 := hz9.symm
            refine lv_lstore hx hb d_M_recover_156 hl (by decide) (lv' := [(12, .long r21), (10, .long r19), (8, .long r18), (0, .ref (A 0)), (1, .int a0), (2, .long a1), (4, .int a2), (5, .int a3)]) rfl (fun ls hl => ?_)
            refine lv_lload hx hb d_M_recover_158 (lv_at hl 2 rfl) ?_
            refine lv_ldc2 (v := (-1)) hx hb hown (hw _ ww_533) d_M_recover_160 ?_
            refine W.lcmp hx hb d_M_recover_163 ?_
            obtain ⟨j22, q24, hF⟩ := Option.bind_eq_some_iff.mp hF
            have k23 : ∀ (H : Heap) (locs : List Loc) (ls : Array Slot), va_P D vwC (wM A cc (j6, g0.2.1, g0.2.2.1, g0.2.2.2.1, g0.2.2.2.2.1, g0.2.2.2.2.2.1, g0.2.2.2.2.2.2.1, g0.2.2.2.2.2.2.2.1, g0.2.2.2.2.2.2.2.2.1, g0.2.2.2.2.2.2.2.2.2.1, g0.2.2.2.2.2.2.2.2.2.2.1, g0.2.2.2.2.2.2.2.2.2.2.2.1, g0.2.2.2.2.2.2.2.2.2.2.2.2)) H → va_D AA (wM A cc (j6, g0.2.1, g0.2.2.1, g0.2.2.2.1, g0.2.2.2.2.1, g0.2.2.2.2.2.1, g0.2.2.2.2.2.2.1, g0.2.2.2.2.2.2.2.1, g0.2.2.2.2.2.2.2.2.1, g0.2.2.2.2.2.2.2.2.2.1, g0.2.2.2.2.2.2.2.2.2.2.1, g0.2.2.2.2.2.2.2.2.2.2.2.1, g0.2.2.2.2.2.2.2.2.2.2.2.2)) → va_S AA s.heap H locs → lv_has ls 16 [(0, .ref (A 0)), (1, .int a0)] → W p l e rm_M_recover s m ([Value.ref (A 0), Value.int a0, Value.long a1, Value.int a2, Value.int a3, Value.int a4] : List Value).toArray below meth c H locs 0 0 (MQ below (va_Ql (fun r u => (r, u) = res) (bw D (wM A cc) (kM cc) AA) AA) ([Value.ref (A 0), Value.int a0, Value.long a1, Value.int a2, Value.int a3, Value.int a4] : List Value).toArray s 0 0 AA) (F0 m 191 ls [.long j22]) := by
              intro H locs ls hP hD hS hl
              refine lv_lstore hx hb d_M_recover_191 hl (by decide) (lv' := [(14, .long j22), (0, .ref (A 0)), (1, .int a0)]) rfl (fun ls hl => ?_)
              refine lv_aload_n hx hb d_M_recover_193 rfl (lv_at hl 1 rfl) ?_
              refine lv_lload hx hb d_M_recover_194 (lv_at hl 0 rfl) ?_
              refine lv_ldc2 (v := (-1)) hx hb hown (hw _ ww_533) d_M_recover_196 ?_
              refine W.lcmp hx hb d_M_recover_199 ?_
              obtain ⟨j26, q28, hF⟩ := Option.bind_eq_some_iff.mp hF
              have k27 : ∀ (H : Heap) (locs : List Loc) (ls : Array Slot), va_P D vwC (wM A cc (j6, g0.2.1, g0.2.2.1, g0.2.2.2.1, g0.2.2.2.2.1, g0.2.2.2.2.2.1, g0.2.2.2.2.2.2.1, g0.2.2.2.2.2.2.2.1, g0.2.2.2.2.2.2.2.2.1, g0.2.2.2.2.2.2.2.2.2.1, g0.2.2.2.2.2.2.2.2.2.2.1, g0.2.2.2.2.2.2.2.2.2.2.2.1, g0.2.2.2.2.2.2.2.2.2.2.2.2)) H → va_D AA (wM A cc (j6, g0.2.1, g0.2.2.1, g0.2.2.2.1, g0.2.2.2.2.1, g0.2.2.2.2.2.1, g0.2.2.2.2.2.2.1, g0.2.2.2.2.2.2.2.1, g0.2.2.2.2.2.2.2.2.1, g0.2.2.2.2.2.2.2.2.2.1, g0.2.2.2.2.2.2.2.2.2.2.1, g0.2.2.2.2.2.2.2.2.2.2.2.1, g0.2.2.2.2.2.2.2.2.2.2.2.2)) → va_S AA s.heap H locs → lv_has ls 16 [(14, .long j22), (0, .ref (A 0)), (1, .int a0)] → W p l e rm_M_recover s m ([Value.ref (A 0), Value.int a0, Value.long a1, Value.int a2, Value.int a3, Value.int a4] : List Value).toArray below meth c H locs 0 0 (MQ below (va_Ql (fun r u => (r, u) = res) (bw D (wM A cc) (kM cc) AA) AA) ([Value.ref (A 0), Value.int a0, Value.long a1, Value.int a2, Value.int a3, Value.int a4] : List Value).toArray s 0 0 AA) (F0 m 208 ls [.int j26, .ref (A 0)]) := by
                intro H locs ls hP hD hS hl
                refine va_put (D := D) (ci := 3) (v := .int j26) (ty := .int) (C := R_M) (T := T_M) (N := 13) hx hb hts in_M ft_M ft_M_ok fn_M hown hK hP hD hS 0 rfl rfl 0 (by decide) (hw _ ww_534) (fun _ h9 => h9) rfl (by decide +kernel) rfl rfl (Nat.le_of_ble_eq_true rfl) d_M_recover_208 (fun H locs hP hD hS => ?_)
                have hP : va_P D vwC (wM A cc (j26, g0.2.1, g0.2.2.1, g0.2.2.2.1, g0.2.2.2.2.1, g0.2.2.2.2.2.1, g0.2.2.2.2.2.2.1, g0.2.2.2.2.2.2.2.1, g0.2.2.2.2.2.2.2.2.1, g0.2.2.2.2.2.2.2.2.2.1, g0.2.2.2.2.2.2.2.2.2.2.1, g0.2.2.2.2.2.2.2.2.2.2.2.1, g0.2.2.2.2.2.2.2.2.2.2.2.2)) H := hP
                have hD : va_D AA (wM A cc (j26, g0.2.1, g0.2.2.1, g0.2.2.2.1, g0.2.2.2.2.1, g0.2.2.2.2.2.1, g0.2.2.2.2.2.2.1, g0.2.2.2.2.2.2.2.1, g0.2.2.2.2.2.2.2.2.1, g0.2.2.2.2.2.2.2.2.2.1, g0.2.2.2.2.2.2.2.2.2.2.1, g0.2.2.2.2.2.2.2.2.2.2.2.1, g0.2.2.2.2.2.2.2.2.2.2.2.2)) := hD
                refine lv_aload_n hx hb d_M_recover_211 rfl (lv_at hl 1 rfl) ?_
                refine va_get (D := D) (ci := 3) (v := .int j26) (C := R_M) (T := T_M) (N := 13) hx hb hts in_M hown hK hP 0 rfl rfl 0 (by decide) (hw _ ww_534) (fun _ h9 => h9) rfl d_M_recover_212 ?_
                refine lv_if_eq hx hb d_M_recover_215 (tgt := 220) (by decide) (fun h9 => ?_) (fun h9 => ?_)
                · have hF := (if_pos h9).symm.trans hF
                  refine lv_aload_n hx hb d_M_recover_220 rfl (lv_at hl 1 rfl) ?_
                  refine lv_iload_n hx hb d_M_recover_221 rfl (lv_at hl 2 rfl) ?_
                  refine lv_lload hx hb d_M_recover_222 (lv_at hl 0 rfl) ?_
                  obtain ⟨g30, e_g30, hF⟩ := Option.bind_eq_some_iff.mp hF
                  have hFc := va_free (wc := wM A cc (j26, g0.2.1, g0.2.2.1, g0.2.2.2.1, g0.2.2.2.2.1, g0.2.2.2.2.2.1, g0.2.2.2.2.2.2.1, g0.2.2.2.2.2.2.2.1, g0.2.2.2.2.2.2.2.2.1, g0.2.2.2.2.2.2.2.2.2.1, g0.2.2.2.2.2.2.2.2.2.2.1, g0.2.2.2.2.2.2.2.2.2.2.2.1, g0.2.2.2.2.2.2.2.2.2.2.2.2)) hD hS hA [0, 1, 2, 3, 4, 5, 6, 7, 8] rfl
                  refine va_callv (va_runV (As := [.int a0, .long j22]) (rest := []) ⟨hx, hb, hml, hown, hts⟩ (k_M_lay l D A cc (j26, g0.2.1, g0.2.2.1, g0.2.2.2.1, g0.2.2.2.2.1, g0.2.2.2.2.2.1, g0.2.2.2.2.2.2.1, g0.2.2.2.2.2.2.2.1, g0.2.2.2.2.2.2.2.2.1, g0.2.2.2.2.2.2.2.2.2.1, g0.2.2.2.2.2.2.2.2.2.2.1, g0.2.2.2.2.2.2.2.2.2.2.2.1, g0.2.2.2.2.2.2.2.2.2.2.2.2) a0 j22 _ g30 e_g30) (cwV 2 hts (ga_V ww_631 ww_633 wp_7 ww_4 ww_634) rfl rfl rfl (by decide +kernel) ⟨by decide, by decide⟩) (pw_pre (q0 := 0) (ci := 3) hP hK hD hN rfl rfl) rfl rfl hl.1 rfl (lv_room (Nat.le_of_ble_eq_true rfl)) d_M_recover_224 ⟨Nat.zero_le _, Nat.zero_le _⟩) hS (fun q _ h => hFc q h) hFc (fun u9 t H locs ht hvm hp hB hz1 hk1 hS => ?_)
                  obtain rfl : g30 = u9 := hp.symm
                  obtain ⟨hP, hD⟩ := bw_back hB ht hFc
                  refine lv_lload hx hb d_M_recover_227 (lv_at hl 0 rfl) ?_
                  obtain ⟨r31, e_r31, hF⟩ := Option.bind_eq_some_iff.mp hF
                  refine vp_callSl (va_runS (As := [.long j22]) (rest := []) ⟨hx, hb, hml, hown, hts⟩ (k_M_codeOf l j22 r31 e_r31) (va_cwS 1 hts (ga_S ww_615 ww_616 ww_4 ww_617) rfl rfl rfl (by decide +kernel) ⟨by decide, by decide⟩) (pcs_pre hN) rfl rfl hl.1 rfl (lv_room (Nat.le_of_ble_eq_true rfl)) d_M_recover_229 ⟨Nat.zero_le _, Nat.zero_le _⟩).run (fun z9 hz9 => ?_)
                  obtain rfl : r31 = z9 := hz9.symm
                  obtain rfl := Option.some.inj hF
                  exact W.lret hx hb hr (fun t ht hW => ⟨⟨_, _, rfl, rfl, bw_end hP hK hD ht hW⟩, hS.F ht⟩) hS.2.2 d_M_recover_232
                · have hF := (if_neg h9).symm.trans hF
                  refine lv_lconst (v := 0) hx hb d_M_recover_218 (by decide) ?_
                  obtain rfl := Option.some.inj hF
                  exact W.lret hx hb hr (fun t ht hW => ⟨⟨_, _, rfl, rfl, bw_end hP hK hD ht hW⟩, hS.F ht⟩) hS.2.2 d_M_recover_219
              clear hF
              have hF := q28
              refine lv_if_ne hx hb d_M_recover_200 (tgt := 207) (by decide) (fun h9 => ?_) (fun h9 => ?_)
              · have hF := (if_neg h9).symm.trans hF
                refine lv_iconst (v := 0) hx hb d_M_recover_207 (by decide) ?_
                obtain rfl := Option.some.inj hF
                exact k27 _ _ ls hP hD hS (lv_sub hl [0, 1, 2] rfl)
              · have hF := (if_pos h9).symm.trans hF
                refine lv_iconst (v := 2) hx hb d_M_recover_203 (by decide) ?_
                refine lv_goto hx hb d_M_recover_204 (tgt := 208) (by decide) ?_
                obtain rfl := Option.some.inj hF
                exact k27 _ _ ls hP hD hS (lv_sub hl [0, 1, 2] rfl)
            clear hF
            have hF := q24
            refine lv_if_ne hx hb d_M_recover_164 (tgt := 173) (by decide) (fun h9 => ?_) (fun h9 => ?_)
            · have hF := (if_neg h9).symm.trans hF
              refine lv_lload hx hb d_M_recover_173 (lv_at hl 1 rfl) ?_
              refine lv_lload hx hb d_M_recover_175 (lv_at hl 2 rfl) ?_
              obtain ⟨r32, e_r32, hF⟩ := Option.bind_eq_some_iff.mp hF
              refine vp_callSl (va_runS (As := [.long r19, .long r18]) (rest := []) ⟨hx, hb, hml, hown, hts⟩ (k_M_times l r19 r18 r32 e_r32) (va_cwS 2 hts (ga_S ww_590 ww_591 ww_4 ww_592) rfl rfl rfl (by decide +kernel) ⟨by decide, by decide⟩) (pcs_pre hN) rfl rfl hl.1 rfl (lv_room (Nat.le_of_ble_eq_true rfl)) d_M_recover_177 ⟨Nat.zero_le _, Nat.zero_le _⟩).run (fun z9 hz9 => ?_)
              obtain rfl : r32 = z9 := hz9.symm
              refine lv_lload hx hb d_M_recover_180 (lv_at hl 0 rfl) ?_
              obtain ⟨r33, e_r33, hF⟩ := Option.bind_eq_some_iff.mp hF
              refine vp_callSl (va_runS (As := []) (rest := [.long r21, .long r32]) ⟨hx, hb, hml, hown, hts⟩ (k_M_g l  r33 e_r33) (va_cwS 0 hts (ga_S ww_586 ww_587 ww_4 ww_588) rfl rfl rfl (by decide +kernel) ⟨by decide, by decide⟩) (pcs_pre hN) rfl rfl hl.1 rfl (lv_room (Nat.le_of_ble_eq_true rfl)) d_M_recover_182 ⟨Nat.zero_le _, Nat.zero_le _⟩).run (fun z9 hz9 => ?_)
              obtain rfl : r33 = z9 := hz9.symm
              obtain ⟨r34, e_r34, hF⟩ := Option.bind_eq_some_iff.mp hF
              refine vp_callSl (va_runS (As := [.long r21, .long r33]) (rest := [.long r32]) ⟨hx, hb, hml, hown, hts⟩ (k_M_times l r21 r33 r34 e_r34) (va_cwS 2 hts (ga_S ww_590 ww_591 ww_4 ww_592) rfl rfl rfl (by decide +kernel) ⟨by decide, by decide⟩) (pcs_pre hN) rfl rfl hl.1 rfl (lv_room (Nat.le_of_ble_eq_true rfl)) d_M_recover_185 ⟨Nat.zero_le _, Nat.zero_le _⟩).run (fun z9 hz9 => ?_)
              obtain rfl : r34 = z9 := hz9.symm
              obtain ⟨r35, e_r35, hF⟩ := Option.bind_eq_some_iff.mp hF
              refine vp_callSl (va_runS (As := [.long r32, .long r34]) (rest := []) ⟨hx, hb, hml, hown, hts⟩ (k_M_sum l r32 r34 r35 e_r35) (va_cwS 2 hts (ga_S ww_594 ww_595 ww_4 ww_596) rfl rfl rfl (by decide +kernel) ⟨by decide, by decide⟩) (pcs_pre hN) rfl rfl hl.1 rfl (lv_room (Nat.le_of_ble_eq_true rfl)) d_M_recover_188 ⟨Nat.zero_le _, Nat.zero_le _⟩).run (fun z9 hz9 => ?_)
              obtain rfl : r35 = z9 := hz9.symm
              obtain rfl := Option.some.inj hF
              exact k23 _ _ ls hP hD hS (lv_sub hl [3, 4] rfl)
            · have hF := (if_pos h9).symm.trans hF
              refine lv_ldc2 (v := (-1)) hx hb hown (hw _ ww_533) d_M_recover_167 ?_
              refine lv_goto hx hb d_M_recover_170 (tgt := 191) (by decide) ?_
              obtain rfl := Option.some.inj hF
              exact k23 _ _ ls hP hD hS (lv_sub hl [3, 4] rfl)
          clear hF
          have hF := q16
          refine lv_icmp_ne hx hb d_M_recover_108 (tgt := 115) (by decide) (fun h9 => ?_) (fun h9 => ?_)
          · have hF := (if_neg h9).symm.trans hF
            refine lv_iconst (v := 0) hx hb d_M_recover_115 (by decide) ?_
            obtain rfl := Option.some.inj hF
            exact k15 _ _ ls hP hD hS (lv_sub hl [0, 1, 2, 3, 4] rfl)
          · have hF := (if_pos h9).symm.trans hF
            refine lv_iconst (v := 1) hx hb d_M_recover_111 (by decide) ?_
            refine lv_goto hx hb d_M_recover_112 (tgt := 116) (by decide) ?_
            obtain rfl := Option.some.inj hF
            exact k15 _ _ ls hP hD hS (lv_sub hl [0, 1, 2, 3, 4] rfl)
        clear hF
        have hF := q12
        refine lv_icmp_le hx hb d_M_recover_87 (tgt := 100) (by decide) (fun h9 => ?_) (fun h9 => ?_)
        · have hF := (if_pos h9).symm.trans hF
          refine lv_iload hx hb d_M_recover_100 (lv_at hl 3 rfl) ?_
          refine lv_i2l (v := Int32.toInt64 a2) hx hb d_M_recover_102 rfl ?_
          obtain rfl := Option.some.inj hF
          exact k11 _ _ ls hP hD hS (lv_sub hl [0, 1, 2, 3, 4, 5] rfl)
        · have hF := (if_neg h9).symm.trans hF
          refine lv_iload hx hb d_M_recover_90 (lv_at hl 3 rfl) ?_
          refine lv_i2l (v := Int32.toInt64 a2) hx hb d_M_recover_92 rfl ?_
          refine lv_ldc2 (v := 1073729077) hx hb hown (hw _ ww_585) d_M_recover_93 ?_
          refine lv_ladd hx hb d_M_recover_96 ?_
          refine lv_goto hx hb d_M_recover_97 (tgt := 103) (by decide) ?_
          obtain rfl := Option.some.inj hF
          exact k11 _ _ ls hP hD hS (lv_sub hl [0, 1, 2, 3, 4, 5] rfl)
      · have hF := (if_neg h9).symm.trans hF
        refine lv_lconst (v := 0) hx hb d_M_recover_82 (by decide) ?_
        obtain rfl := Option.some.inj hF
        exact W.lret hx hb hr (fun t ht hW => ⟨⟨_, _, rfl, rfl, bw_end hP hK hD ht hW⟩, hS.F ht⟩) hS.2.2 d_M_recover_83
    clear hF
    have hF := q8
    refine lv_if_ne hx hb d_M_recover_55 (tgt := 62) (by decide) (fun h9 => ?_) (fun h9 => ?_)
    · have hF := (if_neg h9).symm.trans hF
      refine lv_iload hx hb d_M_recover_62 (lv_at hl 0 rfl) ?_
      refine lv_if_ne hx hb d_M_recover_64 (tgt := 71) (by decide) (fun h9 => ?_) (fun h9 => ?_)
      · have hF := (if_neg h9).symm.trans hF
        refine lv_iconst (v := 0) hx hb d_M_recover_71 (by decide) ?_
        obtain rfl := Option.some.inj hF
        exact k7 _ _ ls hP hD hS (lv_sub hl [1, 2, 3, 4, 5, 6] rfl)
      · have hF := (if_pos h9).symm.trans hF
        refine lv_iconst (v := 2) hx hb d_M_recover_67 (by decide) ?_
        refine lv_goto hx hb d_M_recover_68 (tgt := 72) (by decide) ?_
        obtain rfl := Option.some.inj hF
        exact k7 _ _ ls hP hD hS (lv_sub hl [1, 2, 3, 4, 5, 6] rfl)
    · have hF := (if_pos h9).symm.trans hF
      refine lv_iconst (v := 1) hx hb d_M_recover_58 (by decide) ?_
      refine lv_goto hx hb d_M_recover_59 (tgt := 72) (by decide) ?_
      obtain rfl := Option.some.inj hF
      exact k7 _ _ ls hP hD hS (lv_sub hl [1, 2, 3, 4, 5, 6] rfl)
  clear hF
  have hF := q3
  refine lv_icmp_lt hx hb d_M_recover_3 (tgt := 47) (by decide) (fun h9 => ?_) (fun h9 => ?_)
  · have hF := (if_pos h9).symm.trans hF
    refine lv_iconst (v := 0) hx hb d_M_recover_47 (by decide) ?_
    obtain rfl := Option.some.inj hF
    exact k2 _ _ ls hP hD hS (lv_sub hl [0, 1, 2, 3, 4, 5] rfl)
  · have hF := (if_neg h9).symm.trans hF
    refine lv_iload hx hb d_M_recover_6 (lv_at hl 3 rfl) ?_
    refine lv_i2l (v := Int32.toInt64 a2) hx hb d_M_recover_8 rfl ?_
    refine lv_ldc2 (v := 1073729077) hx hb hown (hw _ ww_585) d_M_recover_9 ?_
    refine W.lcmp hx hb d_M_recover_12 ?_
    refine lv_if_ge hx hb d_M_recover_13 (tgt := 47) (by decide) (fun h9 => ?_) (fun h9 => ?_)
    · have hF := (if_pos h9).symm.trans hF
      refine lv_iconst (v := 0) hx hb d_M_recover_47 (by decide) ?_
      obtain rfl := Option.some.inj hF
      exact k2 _ _ ls hP hD hS (lv_sub hl [0, 1, 2, 3, 4, 5] rfl)
    · have hF := (if_neg h9).symm.trans hF
      refine lv_iload hx hb d_M_recover_16 (lv_at hl 4 rfl) ?_
      refine lv_iconst (v := 1) hx hb d_M_recover_18 (by decide) ?_
      refine lv_icmp_lt hx hb d_M_recover_19 (tgt := 47) (by decide) (fun h9 => ?_) (fun h9 => ?_)
      · have hF := (if_pos h9).symm.trans hF
        refine lv_iconst (v := 0) hx hb d_M_recover_47 (by decide) ?_
        obtain rfl := Option.some.inj hF
        exact k2 _ _ ls hP hD hS (lv_sub hl [0, 1, 2, 3, 4, 5] rfl)
      · have hF := (if_neg h9).symm.trans hF
        refine lv_iload hx hb d_M_recover_22 (lv_at hl 4 rfl) ?_
        refine lv_i2l (v := Int32.toInt64 a3) hx hb d_M_recover_24 rfl ?_
        refine lv_ldc2 (v := 1073729077) hx hb hown (hw _ ww_585) d_M_recover_25 ?_
        refine W.lcmp hx hb d_M_recover_28 ?_
        refine lv_if_ge hx hb d_M_recover_29 (tgt := 47) (by decide) (fun h9 => ?_) (fun h9 => ?_)
        · have hF := (if_pos h9).symm.trans hF
          refine lv_iconst (v := 0) hx hb d_M_recover_47 (by decide) ?_
          obtain rfl := Option.some.inj hF
          exact k2 _ _ ls hP hD hS (lv_sub hl [0, 1, 2, 3, 4, 5] rfl)
        · have hF := (if_neg h9).symm.trans hF
          refine lv_iload hx hb d_M_recover_32 (lv_at hl 5 rfl) ?_
          refine lv_if_lt hx hb d_M_recover_34 (tgt := 47) (by decide) (fun h9 => ?_) (fun h9 => ?_)
          · have hF := (if_pos h9).symm.trans hF
            refine lv_iconst (v := 0) hx hb d_M_recover_47 (by decide) ?_
            obtain rfl := Option.some.inj hF
            exact k2 _ _ ls hP hD hS (lv_sub hl [0, 1, 2, 3, 4, 5] rfl)
          · have hF := (if_neg h9).symm.trans hF
            refine lv_iload hx hb d_M_recover_37 (lv_at hl 5 rfl) ?_
            refine lv_iconst (v := 3) hx hb d_M_recover_39 (by decide) ?_
            refine lv_icmp_gt hx hb d_M_recover_40 (tgt := 47) (by decide) (fun h9 => ?_) (fun h9 => ?_)
            · have hF := (if_pos h9).symm.trans hF
              refine lv_iconst (v := 0) hx hb d_M_recover_47 (by decide) ?_
              obtain rfl := Option.some.inj hF
              exact k2 _ _ ls hP hD hS (lv_sub hl [0, 1, 2, 3, 4, 5] rfl)
            · have hF := (if_neg h9).symm.trans hF
              refine lv_iconst (v := 1) hx hb d_M_recover_43 (by decide) ?_
              refine lv_goto hx hb d_M_recover_44 (tgt := 48) (by decide) ?_
              obtain rfl := Option.some.inj hF
              exact k2 _ _ ls hP hD hS (lv_sub hl [0, 1, 2, 3, 4, 5] rfl)
def f_M_prove (g0 : sM) (a0 : Int32) (a1 : Int64) (a2 : Int64) : Option (Int64 × sM) := Option.bind (f_M_noSecret g0 a0) (fun t3 => match t3 with | (r2, g1) => (if r2 = 0 then (if a0 < 0 ∨ 6 ≤ Int32.toNatClampNeg a0 then none else (Option.bind (f_M_xOf (g1.2.1 (Int32.toNatClampNeg a0))) (fun r5 => if a0 < 0 ∨ 6 ≤ Int32.toNatClampNeg a0 then none else (Option.bind (f_M_odd (g1.2.1 (Int32.toNatClampNeg a0))) (fun r7 => Option.bind (if r7 = 0 then (if a0 < 0 ∨ 6 ≤ Int32.toNatClampNeg a0 then none else (some (g1.2.2.1 (Int32.toNatClampNeg a0))) : Option (Int64)) else (if a0 < 0 ∨ 6 ≤ Int32.toNatClampNeg a0 then none else (some (1073729077 - (g1.2.2.1 (Int32.toNatClampNeg a0)))))) (fun j8 => Option.bind (f_M_h a2 23) (fun r12 => Option.bind (f_M_h (j8 ^^^ ((Int64.toUInt64 r12 >>> ((Int32.toInt64 34).toUInt64 &&& Int64.toUInt64 63)).toInt64)) r5) (fun r13 => Option.bind (f_M_h r13 a1) (fun r14 => Option.bind (some (((Int64.toUInt64 r14 >>> ((Int32.toInt64 33).toUInt64 &&& Int64.toUInt64 63)).toInt64) - ((Int64.toUInt64 r14 >>> ((Int32.toInt64 33).toUInt64 &&& Int64.toUInt64 63)).toInt64) / 1073729077 * 1073729077)) (fun v15 => Option.bind (if (lg_cmp v15 0) = 0 then (some (3) : Option (Int32)) else (some (0))) (fun j16 => if j16 = 0 then (Option.bind (f_M_g ) (fun r20 => Option.bind (f_M_times v15 r20) (fun r21 => Option.bind (f_M_odd r21) (fun r22 => Option.bind (if r22 = 0 then (some (v15) : Option (Int64)) else (some (1073729077 - v15))) (fun j23 => Option.bind (f_M_xOf r21) (fun r27 => Option.bind (f_M_challenge r27 r5 a1) (fun r28 => Option.bind (f_M_xOf r21) (fun r29 => some ((r29 * 4294967296) + ((j23 + (r28 * j8)) - (j23 + (r28 * j8)) / 1073729077 * 1073729077), (j16, g1.2.1, g1.2.2.1, g1.2.2.2.1, g1.2.2.2.2.1, g1.2.2.2.2.2.1, g1.2.2.2.2.2.2.1, g1.2.2.2.2.2.2.2.1, g1.2.2.2.2.2.2.2.2.1, g1.2.2.2.2.2.2.2.2.2.1, g1.2.2.2.2.2.2.2.2.2.2.1, g1.2.2.2.2.2.2.2.2.2.2.2.1, g1.2.2.2.2.2.2.2.2.2.2.2.2)))))))))) else (some (0, (j16, g1.2.1, g1.2.2.1, g1.2.2.2.1, g1.2.2.2.2.1, g1.2.2.2.2.2.1, g1.2.2.2.2.2.2.1, g1.2.2.2.2.2.2.2.1, g1.2.2.2.2.2.2.2.2.1, g1.2.2.2.2.2.2.2.2.2.1, g1.2.2.2.2.2.2.2.2.2.2.1, g1.2.2.2.2.2.2.2.2.2.2.2.1, g1.2.2.2.2.2.2.2.2.2.2.2.2)))))))))))))) else (some (0, (r2, g1.2.1, g1.2.2.1, g1.2.2.2.1, g1.2.2.2.2.1, g1.2.2.2.2.2.1, g1.2.2.2.2.2.2.1, g1.2.2.2.2.2.2.2.1, g1.2.2.2.2.2.2.2.2.1, g1.2.2.2.2.2.2.2.2.2.1, g1.2.2.2.2.2.2.2.2.2.2.1, g1.2.2.2.2.2.2.2.2.2.2.2.1, g1.2.2.2.2.2.2.2.2.2.2.2.2)))))
abbrev rm_M_prove : Room := { frames := 5, cells := 0, slots := 0, locals := 147 }
set_option maxHeartbeats 4000000 in
set_option maxRecDepth 100000 in
theorem k_M_prove (l : Launch) (D : va_G) (A : Nat → Nat) (cc : Nat → ClassId) (g0 : sM) (a0 : Int32) (a1 : Int64) (a2 : Int64) (sz : Nat) (res : (Int64 × sM)) (hF : f_M_prove g0 a0 a1 a2 = some res) : Met l y_M_prove (Cond.code y_M_prove b_M_prove 16 (some .long) :: wa) rm_M_prove (pw D (wM A cc g0) (kM cc) [.ref (A 0), .int a0, .long a1, .long a2] sz) (va_Ql (fun r u => (r, u) = res) (bw D (wM A cc) (kM cc) (va_A (wM A cc g0) sz)) (va_A (wM A cc g0) sz)) 0 0 (va_A (wM A cc g0) sz) := by
  refine Met.ofW (cc := b_M_prove) (maxL := 16) (ret := (some .long)) (by decide) rfl ?_
  intro p e s m args below meth c s₁ B hml hv
  obtain ⟨rfl, hsz, hP, hK, hD0, hN⟩ := hv
  have hx := B.exec
  have hb := B.bytes
  have hr := B.returns
  have hts := atoms_spec (ws := Cond.code y_M_prove b_M_prove 16 (some .long) :: wa) B.pre
  have hw : ∀ w ∈ wa, w.before _ s = true := fun w h => hts w (List.mem_cons_of_mem _ h)
  have hown : s.vm.findClass R_M = some m.cls := findClass_of_methodNamed B.named
  have hlocks := B.notSynchronized
  subst hsz
  have hD := hD0.self (sz := s.heap.size)
  generalize hAe : va_A (wM A cc g0) s.heap.size = AA at hD ⊢
  have hA : ∀ q : Nat, s.heap.size ≤ q → AA q := fun q h => by rw [← hAe]; exact Or.inr h
  have hS : va_S AA s.heap s.heap [] := va_S.rf
  have hl := lv_entry ([.ref (A 0), .int a0, .long a1, .long a2]) (n := 16) (Nat.le_of_ble_eq_true rfl)
  rw [lg_entry_eq]
  generalize (lg_sl ([.ref (A 0), .int a0, .long a1, .long a2]) ++ List.replicate (16 - (lg_sl ([.ref (A 0), .int a0, .long a1, .long a2])).length) Slot.unset).toArray = ls at hl ⊢
  have hl : lv_has ls 16 [(0, .ref (A 0)), (1, .int a0), (2, .long a1), (4, .long a2)] := hl
  unfold f_M_prove at hF
  refine lv_aload_n hx hb d_M_prove_0 rfl (lv_at hl 0 rfl) ?_
  refine lv_aload_n hx hb d_M_prove_1 rfl (lv_at hl 0 rfl) ?_
  refine lv_iload_n hx hb d_M_prove_2 rfl (lv_at hl 1 rfl) ?_
  obtain ⟨⟨r2, g1⟩, e_g1, hF⟩ := Option.bind_eq_some_iff.mp hF
  have hFc := va_free (wc := wM A cc g0) hD hS hA [0, 1, 2, 3, 4, 5, 6, 7, 8] rfl
  refine va_calli (va_runV (As := [.int a0]) (rest := [.ref (A 0)]) ⟨hx, hb, hml, hown, hts⟩ (k_M_noSecret l D A cc g0 a0 _ (r2, g1) e_g1) (cwV 1 hts (ga_V ww_666 ww_668 wp_9 ww_4 ww_669) rfl rfl rfl (by decide +kernel) ⟨by decide, by decide⟩) (pw_pre (q0 := 0) (ci := 3) hP hK hD hN rfl rfl) rfl rfl hl.1 rfl (lv_room (Nat.le_of_ble_eq_true rfl)) d_M_prove_3 ⟨Nat.zero_le _, Nat.zero_le _⟩) hS (fun q _ h => hFc q h) hFc (fun r9 u9 t H locs ht hvm hp hB hz1 hk1 hS => ?_)
  obtain ⟨rfl, rfl⟩ := Prod.mk.inj hp.symm
  obtain ⟨hP, hD⟩ := bw_back hB ht hFc
  refine va_put (D := D) (ci := 3) (v := .int r2) (ty := .int) (C := R_M) (T := T_M) (N := 13) hx hb hts in_M ft_M ft_M_ok fn_M hown hK hP hD hS 0 rfl rfl 0 (by decide) (hw _ ww_534) (fun _ h9 => h9) rfl (by decide +kernel) rfl rfl (Nat.le_of_ble_eq_true rfl) d_M_prove_6 (fun H locs hP hD hS => ?_)
  have hP : va_P D vwC (wM A cc (r2, g1.2.1, g1.2.2.1, g1.2.2.2.1, g1.2.2.2.2.1, g1.2.2.2.2.2.1, g1.2.2.2.2.2.2.1, g1.2.2.2.2.2.2.2.1, g1.2.2.2.2.2.2.2.2.1, g1.2.2.2.2.2.2.2.2.2.1, g1.2.2.2.2.2.2.2.2.2.2.1, g1.2.2.2.2.2.2.2.2.2.2.2.1, g1.2.2.2.2.2.2.2.2.2.2.2.2)) H := hP
  have hD : va_D AA (wM A cc (r2, g1.2.1, g1.2.2.1, g1.2.2.2.1, g1.2.2.2.2.1, g1.2.2.2.2.2.1, g1.2.2.2.2.2.2.1, g1.2.2.2.2.2.2.2.1, g1.2.2.2.2.2.2.2.2.1, g1.2.2.2.2.2.2.2.2.2.1, g1.2.2.2.2.2.2.2.2.2.2.1, g1.2.2.2.2.2.2.2.2.2.2.2.1, g1.2.2.2.2.2.2.2.2.2.2.2.2)) := hD
  refine lv_aload_n hx hb d_M_prove_9 rfl (lv_at hl 0 rfl) ?_
  refine va_get (D := D) (ci := 3) (v := .int r2) (C := R_M) (T := T_M) (N := 13) hx hb hts in_M hown hK hP 0 rfl rfl 0 (by decide) (hw _ ww_534) (fun _ h9 => h9) rfl d_M_prove_10 ?_
  refine lv_if_eq hx hb d_M_prove_13 (tgt := 18) (by decide) (fun h9 => ?_) (fun h9 => ?_)
  · have hF := (if_pos h9).symm.trans hF
    refine lv_aload_n hx hb d_M_prove_18 rfl (lv_at hl 0 rfl) ?_
    refine va_get (D := D) (ci := 3) (v := .ref (A 1)) (C := R_M) (T := T_M) (N := 13) hx hb hts in_M hown hK hP 0 rfl rfl 1 (by decide) (hw _ ww_535) (fun _ h9 => h9) rfl d_M_prove_19 ?_
    refine lv_iload_n hx hb d_M_prove_22 rfl (lv_at hl 1 rfl) ?_
    by_cases h4 : a0 < 0 ∨ 6 ≤ Int32.toNatClampNeg a0
    · have h0 := (if_pos h4).symm.trans hF; cases h0
    have hF := (if_neg h4).symm.trans hF
    refine va_lald hx hb hK hP 1 0 rfl rfl h4 d_M_prove_23 ?_
    obtain ⟨r5, e_r5, hF⟩ := Option.bind_eq_some_iff.mp hF
    refine vp_callSl (va_runS (As := [.long (g1.2.1 (Int32.toNatClampNeg a0))]) (rest := []) ⟨hx, hb, hml, hown, hts⟩ (k_M_xOf l (g1.2.1 (Int32.toNatClampNeg a0)) r5 e_r5) (va_cwS 1 hts (ga_S ww_597 ww_598 ww_4 ww_599) rfl rfl rfl (by decide +kernel) ⟨by decide, by decide⟩) (pcs_pre hN) rfl rfl hl.1 rfl (lv_room (Nat.le_of_ble_eq_true rfl)) d_M_prove_24 ⟨Nat.zero_le _, Nat.zero_le _⟩).run (fun z9 hz9 => ?_)
    obtain rfl : r5 = z9 := hz9.symm
    refine lv_lstore hx hb d_M_prove_27 hl (by decide) (lv' := [(6, .long r5), (0, .ref (A 0)), (1, .int a0), (2, .long a1), (4, .long a2)]) rfl (fun ls hl => ?_)
    refine lv_aload_n hx hb d_M_prove_29 rfl (lv_at hl 1 rfl) ?_
    refine va_get (D := D) (ci := 3) (v := .ref (A 1)) (C := R_M) (T := T_M) (N := 13) hx hb hts in_M hown hK hP 0 rfl rfl 1 (by decide) (hw _ ww_535) (fun _ h9 => h9) rfl d_M_prove_30 ?_
    refine lv_iload_n hx hb d_M_prove_33 rfl (lv_at hl 2 rfl) ?_
    by_cases h6 : a0 < 0 ∨ 6 ≤ Int32.toNatClampNeg a0
    · have h0 := (if_pos h6).symm.trans hF; cases h0
    have hF := (if_neg h6).symm.trans hF
    refine va_lald hx hb hK hP 1 0 rfl rfl h6 d_M_prove_34 ?_
    obtain ⟨r7, e_r7, hF⟩ := Option.bind_eq_some_iff.mp hF
    refine vp_callSi (va_runS (As := [.long (g1.2.1 (Int32.toNatClampNeg a0))]) (rest := []) ⟨hx, hb, hml, hown, hts⟩ (k_M_odd l (g1.2.1 (Int32.toNatClampNeg a0)) r7 e_r7) (va_cwS 1 hts (ga_S ww_681 ww_682 ww_4 ww_683) rfl rfl rfl (by decide +kernel) ⟨by decide, by decide⟩) (pcs_pre hN) rfl rfl hl.1 rfl (lv_room (Nat.le_of_ble_eq_true rfl)) d_M_prove_35 ⟨Nat.zero_le _, Nat.zero_le _⟩).run (fun z9 hz9 => ?_)
    obtain rfl : r7 = z9 := hz9.symm
    obtain ⟨j8, q10, hF⟩ := Option.bind_eq_some_iff.mp hF
    have k9 : ∀ (H : Heap) (locs : List Loc) (ls : Array Slot), va_P D vwC (wM A cc (r2, g1.2.1, g1.2.2.1, g1.2.2.2.1, g1.2.2.2.2.1, g1.2.2.2.2.2.1, g1.2.2.2.2.2.2.1, g1.2.2.2.2.2.2.2.1, g1.2.2.2.2.2.2.2.2.1, g1.2.2.2.2.2.2.2.2.2.1, g1.2.2.2.2.2.2.2.2.2.2.1, g1.2.2.2.2.2.2.2.2.2.2.2.1, g1.2.2.2.2.2.2.2.2.2.2.2.2)) H → va_D AA (wM A cc (r2, g1.2.1, g1.2.2.1, g1.2.2.2.1, g1.2.2.2.2.1, g1.2.2.2.2.2.1, g1.2.2.2.2.2.2.1, g1.2.2.2.2.2.2.2.1, g1.2.2.2.2.2.2.2.2.1, g1.2.2.2.2.2.2.2.2.2.1, g1.2.2.2.2.2.2.2.2.2.2.1, g1.2.2.2.2.2.2.2.2.2.2.2.1, g1.2.2.2.2.2.2.2.2.2.2.2.2)) → va_S AA s.heap H locs → lv_has ls 16 [(6, .long r5), (0, .ref (A 0)), (2, .long a1), (4, .long a2)] → W p l e rm_M_prove s m ([Value.ref (A 0), Value.int a0, Value.long a1, Value.long a2] : List Value).toArray below meth c H locs 0 0 (MQ below (va_Ql (fun r u => (r, u) = res) (bw D (wM A cc) (kM cc) AA) AA) ([Value.ref (A 0), Value.int a0, Value.long a1, Value.long a2] : List Value).toArray s 0 0 AA) (F0 m 60 ls [.long j8]) := by
      intro H locs ls hP hD hS hl
      refine lv_lstore hx hb d_M_prove_60 hl (by decide) (lv' := [(8, .long j8), (6, .long r5), (0, .ref (A 0)), (2, .long a1), (4, .long a2)]) rfl (fun ls hl => ?_)
      refine lv_lload hx hb d_M_prove_62 (lv_at hl 0 rfl) ?_
      refine lv_lload hx hb d_M_prove_64 (lv_at hl 4 rfl) ?_
      refine lv_ldc2 (v := 23) hx hb hown (hw _ ww_704) d_M_prove_66 ?_
      obtain ⟨r12, e_r12, hF⟩ := Option.bind_eq_some_iff.mp hF
      refine vp_callSl (va_runS (As := [.long a2, .long 23]) (rest := [.long j8]) ⟨hx, hb, hml, hown, hts⟩ (k_M_h l a2 23 r12 e_r12) (va_cwS 2 hts (ga_S ww_674 ww_675 ww_4 ww_676) rfl rfl rfl (by decide +kernel) ⟨by decide, by decide⟩) (pcs_pre hN) rfl rfl hl.1 rfl (lv_room (Nat.le_of_ble_eq_true rfl)) d_M_prove_69 ⟨Nat.zero_le _, Nat.zero_le _⟩).run (fun z9 hz9 => ?_)
      obtain rfl : r12 = z9 := hz9.symm
      refine lv_bipush (v := 34) hx hb d_M_prove_72 (by decide) ?_
      refine lv_lushr (v := (Int64.toUInt64 r12 >>> ((Int32.toInt64 34).toUInt64 &&& Int64.toUInt64 63)).toInt64) hx hb d_M_prove_74 rfl ?_
      refine lv_lxor hx hb d_M_prove_75 ?_
      refine lv_lload hx hb d_M_prove_76 (lv_at hl 1 rfl) ?_
      obtain ⟨r13, e_r13, hF⟩ := Option.bind_eq_some_iff.mp hF
      refine vp_callSl (va_runS (As := [.long (j8 ^^^ ((Int64.toUInt64 r12 >>> ((Int32.toInt64 34).toUInt64 &&& Int64.toUInt64 63)).toInt64)), .long r5]) (rest := []) ⟨hx, hb, hml, hown, hts⟩ (k_M_h l (j8 ^^^ ((Int64.toUInt64 r12 >>> ((Int32.toInt64 34).toUInt64 &&& Int64.toUInt64 63)).toInt64)) r5 r13 e_r13) (va_cwS 2 hts (ga_S ww_674 ww_675 ww_4 ww_676) rfl rfl rfl (by decide +kernel) ⟨by decide, by decide⟩) (pcs_pre hN) rfl rfl hl.1 rfl (lv_room (Nat.le_of_ble_eq_true rfl)) d_M_prove_78 ⟨Nat.zero_le _, Nat.zero_le _⟩).run (fun z9 hz9 => ?_)
      obtain rfl : r13 = z9 := hz9.symm
      refine lv_lload_n hx hb d_M_prove_81 rfl (lv_at hl 3 rfl) ?_
      obtain ⟨r14, e_r14, hF⟩ := Option.bind_eq_some_iff.mp hF
      refine vp_callSl (va_runS (As := [.long r13, .long a1]) (rest := []) ⟨hx, hb, hml, hown, hts⟩ (k_M_h l r13 a1 r14 e_r14) (va_cwS 2 hts (ga_S ww_674 ww_675 ww_4 ww_676) rfl rfl rfl (by decide +kernel) ⟨by decide, by decide⟩) (pcs_pre hN) rfl rfl hl.1 rfl (lv_room (Nat.le_of_ble_eq_true rfl)) d_M_prove_82 ⟨Nat.zero_le _, Nat.zero_le _⟩).run (fun z9 hz9 => ?_)
      obtain rfl : r14 = z9 := hz9.symm
      refine lv_bipush (v := 33) hx hb d_M_prove_85 (by decide) ?_
      refine lv_lushr (v := (Int64.toUInt64 r14 >>> ((Int32.toInt64 33).toUInt64 &&& Int64.toUInt64 63)).toInt64) hx hb d_M_prove_87 rfl ?_
      refine lv_ldc2 (v := 1073729077) hx hb hown (hw _ ww_585) d_M_prove_88 ?_
      refine lv_lrem hx hb d_M_prove_91 (by decide) ?_
      obtain ⟨v15, e_v15, hF⟩ := Option.bind_eq_some_iff.mp hF
      refine nm_l (Option.some.inj e_v15) ?_
      refine lv_lstore hx hb d_M_prove_92 hl (by decide) (lv' := [(10, .long v15), (8, .long j8), (6, .long r5), (0, .ref (A 0)), (2, .long a1), (4, .long a2)]) rfl (fun ls hl => ?_)
      refine lv_aload_n hx hb d_M_prove_94 rfl (lv_at hl 3 rfl) ?_
      refine lv_lload hx hb d_M_prove_95 (lv_at hl 0 rfl) ?_
      refine lv_lconst (v := 0) hx hb d_M_prove_97 (by decide) ?_
      refine W.lcmp hx hb d_M_prove_98 ?_
      obtain ⟨j16, q18, hF⟩ := Option.bind_eq_some_iff.mp hF
      have k17 : ∀ (H : Heap) (locs : List Loc) (ls : Array Slot), va_P D vwC (wM A cc (r2, g1.2.1, g1.2.2.1, g1.2.2.2.1, g1.2.2.2.2.1, g1.2.2.2.2.2.1, g1.2.2.2.2.2.2.1, g1.2.2.2.2.2.2.2.1, g1.2.2.2.2.2.2.2.2.1, g1.2.2.2.2.2.2.2.2.2.1, g1.2.2.2.2.2.2.2.2.2.2.1, g1.2.2.2.2.2.2.2.2.2.2.2.1, g1.2.2.2.2.2.2.2.2.2.2.2.2)) H → va_D AA (wM A cc (r2, g1.2.1, g1.2.2.1, g1.2.2.2.1, g1.2.2.2.2.1, g1.2.2.2.2.2.1, g1.2.2.2.2.2.2.1, g1.2.2.2.2.2.2.2.1, g1.2.2.2.2.2.2.2.2.1, g1.2.2.2.2.2.2.2.2.2.1, g1.2.2.2.2.2.2.2.2.2.2.1, g1.2.2.2.2.2.2.2.2.2.2.2.1, g1.2.2.2.2.2.2.2.2.2.2.2.2)) → va_S AA s.heap H locs → lv_has ls 16 [(10, .long v15), (8, .long j8), (6, .long r5), (0, .ref (A 0)), (2, .long a1)] → W p l e rm_M_prove s m ([Value.ref (A 0), Value.int a0, Value.long a1, Value.long a2] : List Value).toArray below meth c H locs 0 0 (MQ below (va_Ql (fun r u => (r, u) = res) (bw D (wM A cc) (kM cc) AA) AA) ([Value.ref (A 0), Value.int a0, Value.long a1, Value.long a2] : List Value).toArray s 0 0 AA) (F0 m 107 ls [.int j16, .ref (A 0)]) := by
        intro H locs ls hP hD hS hl
        refine va_put (D := D) (ci := 3) (v := .int j16) (ty := .int) (C := R_M) (T := T_M) (N := 13) hx hb hts in_M ft_M ft_M_ok fn_M hown hK hP hD hS 0 rfl rfl 0 (by decide) (hw _ ww_534) (fun _ h9 => h9) rfl (by decide +kernel) rfl rfl (Nat.le_of_ble_eq_true rfl) d_M_prove_107 (fun H locs hP hD hS => ?_)
        have hP : va_P D vwC (wM A cc (j16, g1.2.1, g1.2.2.1, g1.2.2.2.1, g1.2.2.2.2.1, g1.2.2.2.2.2.1, g1.2.2.2.2.2.2.1, g1.2.2.2.2.2.2.2.1, g1.2.2.2.2.2.2.2.2.1, g1.2.2.2.2.2.2.2.2.2.1, g1.2.2.2.2.2.2.2.2.2.2.1, g1.2.2.2.2.2.2.2.2.2.2.2.1, g1.2.2.2.2.2.2.2.2.2.2.2.2)) H := hP
        have hD : va_D AA (wM A cc (j16, g1.2.1, g1.2.2.1, g1.2.2.2.1, g1.2.2.2.2.1, g1.2.2.2.2.2.1, g1.2.2.2.2.2.2.1, g1.2.2.2.2.2.2.2.1, g1.2.2.2.2.2.2.2.2.1, g1.2.2.2.2.2.2.2.2.2.1, g1.2.2.2.2.2.2.2.2.2.2.1, g1.2.2.2.2.2.2.2.2.2.2.2.1, g1.2.2.2.2.2.2.2.2.2.2.2.2)) := hD
        refine lv_aload_n hx hb d_M_prove_110 rfl (lv_at hl 3 rfl) ?_
        refine va_get (D := D) (ci := 3) (v := .int j16) (C := R_M) (T := T_M) (N := 13) hx hb hts in_M hown hK hP 0 rfl rfl 0 (by decide) (hw _ ww_534) (fun _ h9 => h9) rfl d_M_prove_111 ?_
        refine lv_if_eq hx hb d_M_prove_114 (tgt := 119) (by decide) (fun h9 => ?_) (fun h9 => ?_)
        · have hF := (if_pos h9).symm.trans hF
          refine lv_lload hx hb d_M_prove_119 (lv_at hl 0 rfl) ?_
          obtain ⟨r20, e_r20, hF⟩ := Option.bind_eq_some_iff.mp hF
          refine vp_callSl (va_runS (As := []) (rest := [.long v15]) ⟨hx, hb, hml, hown, hts⟩ (k_M_g l  r20 e_r20) (va_cwS 0 hts (ga_S ww_586 ww_587 ww_4 ww_588) rfl rfl rfl (by decide +kernel) ⟨by decide, by decide⟩) (pcs_pre hN) rfl rfl hl.1 rfl (lv_room (Nat.le_of_ble_eq_true rfl)) d_M_prove_121 ⟨Nat.zero_le _, Nat.zero_le _⟩).run (fun z9 hz9 => ?_)
          obtain rfl : r20 = z9 := hz9.symm
          obtain ⟨r21, e_r21, hF⟩ := Option.bind_eq_some_iff.mp hF
          refine vp_callSl (va_runS (As := [.long v15, .long r20]) (rest := []) ⟨hx, hb, hml, hown, hts⟩ (k_M_times l v15 r20 r21 e_r21) (va_cwS 2 hts (ga_S ww_590 ww_591 ww_4 ww_592) rfl rfl rfl (by decide +kernel) ⟨by decide, by decide⟩) (pcs_pre hN) rfl rfl hl.1 rfl (lv_room (Nat.le_of_ble_eq_true rfl)) d_M_prove_124 ⟨Nat.zero_le _, Nat.zero_le _⟩).run (fun z9 hz9 => ?_)
          obtain rfl : r21 = z9 := hz9.symm
          refine lv_lstore hx hb d_M_prove_127 hl (by decide) (lv' := [(12, .long r21), (10, .long v15), (8, .long j8), (6, .long r5), (0, .ref (A 0)), (2, .long a1)]) rfl (fun ls hl => ?_)
          refine lv_lload hx hb d_M_prove_129 (lv_at hl 0 rfl) ?_
          obtain ⟨r22, e_r22, hF⟩ := Option.bind_eq_some_iff.mp hF
          refine vp_callSi (va_runS (As := [.long r21]) (rest := []) ⟨hx, hb, hml, hown, hts⟩ (k_M_odd l r21 r22 e_r22) (va_cwS 1 hts (ga_S ww_681 ww_682 ww_4 ww_683) rfl rfl rfl (by decide +kernel) ⟨by decide, by decide⟩) (pcs_pre hN) rfl rfl hl.1 rfl (lv_room (Nat.le_of_ble_eq_true rfl)) d_M_prove_131 ⟨Nat.zero_le _, Nat.zero_le _⟩).run (fun z9 hz9 => ?_)
          obtain rfl : r22 = z9 := hz9.symm
          obtain ⟨j23, q25, hF⟩ := Option.bind_eq_some_iff.mp hF
          have k24 : ∀ (H : Heap) (locs : List Loc) (ls : Array Slot), va_P D vwC (wM A cc (j16, g1.2.1, g1.2.2.1, g1.2.2.2.1, g1.2.2.2.2.1, g1.2.2.2.2.2.1, g1.2.2.2.2.2.2.1, g1.2.2.2.2.2.2.2.1, g1.2.2.2.2.2.2.2.2.1, g1.2.2.2.2.2.2.2.2.2.1, g1.2.2.2.2.2.2.2.2.2.2.1, g1.2.2.2.2.2.2.2.2.2.2.2.1, g1.2.2.2.2.2.2.2.2.2.2.2.2)) H → va_D AA (wM A cc (j16, g1.2.1, g1.2.2.1, g1.2.2.2.1, g1.2.2.2.2.1, g1.2.2.2.2.2.1, g1.2.2.2.2.2.2.1, g1.2.2.2.2.2.2.2.1, g1.2.2.2.2.2.2.2.2.1, g1.2.2.2.2.2.2.2.2.2.1, g1.2.2.2.2.2.2.2.2.2.2.1, g1.2.2.2.2.2.2.2.2.2.2.2.1, g1.2.2.2.2.2.2.2.2.2.2.2.2)) → va_S AA s.heap H locs → lv_has ls 16 [(12, .long r21), (8, .long j8), (6, .long r5), (2, .long a1)] → W p l e rm_M_prove s m ([Value.ref (A 0), Value.int a0, Value.long a1, Value.long a2] : List Value).toArray below meth c H locs 0 0 (MQ below (va_Ql (fun r u => (r, u) = res) (bw D (wM A cc) (kM cc) AA) AA) ([Value.ref (A 0), Value.int a0, Value.long a1, Value.long a2] : List Value).toArray s 0 0 AA) (F0 m 148 ls [.long j23]) := by
            intro H locs ls hP hD hS hl
            refine lv_lstore hx hb d_M_prove_148 hl (by decide) (lv' := [(10, .long j23), (12, .long r21), (8, .long j8), (6, .long r5), (2, .long a1)]) rfl (fun ls hl => ?_)
            refine lv_lload hx hb d_M_prove_150 (lv_at hl 1 rfl) ?_
            obtain ⟨r27, e_r27, hF⟩ := Option.bind_eq_some_iff.mp hF
            refine vp_callSl (va_runS (As := [.long r21]) (rest := []) ⟨hx, hb, hml, hown, hts⟩ (k_M_xOf l r21 r27 e_r27) (va_cwS 1 hts (ga_S ww_597 ww_598 ww_4 ww_599) rfl rfl rfl (by decide +kernel) ⟨by decide, by decide⟩) (pcs_pre hN) rfl rfl hl.1 rfl (lv_room (Nat.le_of_ble_eq_true rfl)) d_M_prove_152 ⟨Nat.zero_le _, Nat.zero_le _⟩).run (fun z9 hz9 => ?_)
            obtain rfl : r27 = z9 := hz9.symm
            refine lv_lload hx hb d_M_prove_155 (lv_at hl 3 rfl) ?_
            refine lv_lload_n hx hb d_M_prove_157 rfl (lv_at hl 4 rfl) ?_
            obtain ⟨r28, e_r28, hF⟩ := Option.bind_eq_some_iff.mp hF
            refine vp_callSl (va_runS (As := [.long r27, .long r5, .long a1]) (rest := []) ⟨hx, hb, hml, hown, hts⟩ (k_M_challenge l r27 r5 a1 r28 e_r28) (va_cwS 3 hts (ga_S ww_705 ww_706 ww_4 ww_707) rfl rfl rfl (by decide +kernel) ⟨by decide, by decide⟩) (pcs_pre hN) rfl rfl hl.1 rfl (lv_room (Nat.le_of_ble_eq_true rfl)) d_M_prove_158 ⟨Nat.zero_le _, Nat.zero_le _⟩).run (fun z9 hz9 => ?_)
            obtain rfl : r28 = z9 := hz9.symm
            refine lv_lstore hx hb d_M_prove_161 hl (by decide) (lv' := [(14, .long r28), (10, .long j23), (12, .long r21), (8, .long j8), (6, .long r5), (2, .long a1)]) rfl (fun ls hl => ?_)
            refine lv_lload hx hb d_M_prove_163 (lv_at hl 2 rfl) ?_
            obtain ⟨r29, e_r29, hF⟩ := Option.bind_eq_some_iff.mp hF
            refine vp_callSl (va_runS (As := [.long r21]) (rest := []) ⟨hx, hb, hml, hown, hts⟩ (k_M_xOf l r21 r29 e_r29) (va_cwS 1 hts (ga_S ww_597 ww_598 ww_4 ww_599) rfl rfl rfl (by decide +kernel) ⟨by decide, by decide⟩) (pcs_pre hN) rfl rfl hl.1 rfl (lv_room (Nat.le_of_ble_eq_true rfl)) d_M_prove_165 ⟨Nat.zero_le _, Nat.zero_le _⟩).run (fun z9 hz9 => ?_)
            obtain rfl : r29 = z9 := hz9.symm
            refine lv_ldc2 (v := 4294967296) hx hb hown (hw _ ww_618) d_M_prove_168 ?_
            refine lv_lmul hx hb d_M_prove_171 ?_
            refine lv_lload hx hb d_M_prove_172 (lv_at hl 1 rfl) ?_
            refine lv_lload hx hb d_M_prove_174 (lv_at hl 0 rfl) ?_
            refine lv_lload hx hb d_M_prove_176 (lv_at hl 3 rfl) ?_
            refine lv_lmul hx hb d_M_prove_178 ?_
            refine lv_ladd hx hb d_M_prove_179 ?_
            refine lv_ldc2 (v := 1073729077) hx hb hown (hw _ ww_585) d_M_prove_180 ?_
            refine lv_lrem hx hb d_M_prove_183 (by decide) ?_
            refine lv_ladd hx hb d_M_prove_184 ?_
            obtain rfl := Option.some.inj hF
            exact W.lret hx hb hr (fun t ht hW => ⟨⟨_, _, rfl, rfl, bw_end hP hK hD ht hW⟩, hS.F ht⟩) hS.2.2 d_M_prove_185
          clear hF
          have hF := q25
          refine lv_if_eq hx hb d_M_prove_134 (tgt := 146) (by decide) (fun h9 => ?_) (fun h9 => ?_)
          · have hF := (if_pos h9).symm.trans hF
            refine lv_lload hx hb d_M_prove_146 (lv_at hl 1 rfl) ?_
            obtain rfl := Option.some.inj hF
            exact k24 _ _ ls hP hD hS (lv_sub hl [0, 2, 3, 5] rfl)
          · have hF := (if_neg h9).symm.trans hF
            refine lv_ldc2 (v := 1073729077) hx hb hown (hw _ ww_585) d_M_prove_137 ?_
            refine lv_lload hx hb d_M_prove_140 (lv_at hl 1 rfl) ?_
            refine lv_lsub hx hb d_M_prove_142 ?_
            refine lv_goto hx hb d_M_prove_143 (tgt := 148) (by decide) ?_
            obtain rfl := Option.some.inj hF
            exact k24 _ _ ls hP hD hS (lv_sub hl [0, 2, 3, 5] rfl)
        · have hF := (if_neg h9).symm.trans hF
          refine lv_lconst (v := 0) hx hb d_M_prove_117 (by decide) ?_
          obtain rfl := Option.some.inj hF
          exact W.lret hx hb hr (fun t ht hW => ⟨⟨_, _, rfl, rfl, bw_end hP hK hD ht hW⟩, hS.F ht⟩) hS.2.2 d_M_prove_118
      clear hF
      have hF := q18
      refine lv_if_ne hx hb d_M_prove_99 (tgt := 106) (by decide) (fun h9 => ?_) (fun h9 => ?_)
      · have hF := (if_neg h9).symm.trans hF
        refine lv_iconst (v := 0) hx hb d_M_prove_106 (by decide) ?_
        obtain rfl := Option.some.inj hF
        exact k17 _ _ ls hP hD hS (lv_sub hl [0, 1, 2, 3, 4] rfl)
      · have hF := (if_pos h9).symm.trans hF
        refine lv_iconst (v := 3) hx hb d_M_prove_102 (by decide) ?_
        refine lv_goto hx hb d_M_prove_103 (tgt := 107) (by decide) ?_
        obtain rfl := Option.some.inj hF
        exact k17 _ _ ls hP hD hS (lv_sub hl [0, 1, 2, 3, 4] rfl)
    clear hF
    have hF := q10
    refine lv_if_eq hx hb d_M_prove_38 (tgt := 54) (by decide) (fun h9 => ?_) (fun h9 => ?_)
    · have hF := (if_pos h9).symm.trans hF
      refine lv_aload_n hx hb d_M_prove_54 rfl (lv_at hl 1 rfl) ?_
      refine va_get (D := D) (ci := 3) (v := .ref (A 2)) (C := R_M) (T := T_M) (N := 13) hx hb hts in_M hown hK hP 0 rfl rfl 2 (by decide) (hw _ ww_536) (fun _ h9 => h9) rfl d_M_prove_55 ?_
      refine lv_iload_n hx hb d_M_prove_58 rfl (lv_at hl 2 rfl) ?_
      by_cases h30 : a0 < 0 ∨ 6 ≤ Int32.toNatClampNeg a0
      · have h0 := (if_pos h30).symm.trans hF; cases h0
      have hF := (if_neg h30).symm.trans hF
      refine va_lald hx hb hK hP 2 1 rfl rfl h30 d_M_prove_59 ?_
      obtain rfl := Option.some.inj hF
      exact k9 _ _ ls hP hD hS (lv_sub hl [0, 1, 3, 4] rfl)
    · have hF := (if_neg h9).symm.trans hF
      refine lv_ldc2 (v := 1073729077) hx hb hown (hw _ ww_585) d_M_prove_41 ?_
      refine lv_aload_n hx hb d_M_prove_44 rfl (lv_at hl 1 rfl) ?_
      refine va_get (D := D) (ci := 3) (v := .ref (A 2)) (C := R_M) (T := T_M) (N := 13) hx hb hts in_M hown hK hP 0 rfl rfl 2 (by decide) (hw _ ww_536) (fun _ h9 => h9) rfl d_M_prove_45 ?_
      refine lv_iload_n hx hb d_M_prove_48 rfl (lv_at hl 2 rfl) ?_
      by_cases h31 : a0 < 0 ∨ 6 ≤ Int32.toNatClampNeg a0
      · have h0 := (if_pos h31).symm.trans hF; cases h0
      have hF := (if_neg h31).symm.trans hF
      refine va_lald hx hb hK hP 2 1 rfl rfl h31 d_M_prove_49 ?_
      refine lv_lsub hx hb d_M_prove_50 ?_
      refine lv_goto hx hb d_M_prove_51 (tgt := 60) (by decide) ?_
      obtain rfl := Option.some.inj hF
      exact k9 _ _ ls hP hD hS (lv_sub hl [0, 1, 3, 4] rfl)
  · have hF := (if_neg h9).symm.trans hF
    refine lv_lconst (v := 0) hx hb d_M_prove_16 (by decide) ?_
    obtain rfl := Option.some.inj hF
    exact W.lret hx hb hr (fun t ht hW => ⟨⟨_, _, rfl, rfl, bw_end hP hK hD ht hW⟩, hS.F ht⟩) hS.2.2 d_M_prove_17
def f_M_holds (g0 : sM) (a0 : Int32) (a1 : Int64) (a2 : Int32) (a3 : Int32) : Option (Int32 × sM) := Option.bind (f_M_noPoint g0 a0) (fun t3 => match t3 with | (r2, g1) => (if r2 = 0 then (if a2 < 0 then (some (0, (r2, g1.2.1, g1.2.2.1, g1.2.2.2.1, g1.2.2.2.2.1, g1.2.2.2.2.2.1, g1.2.2.2.2.2.2.1, g1.2.2.2.2.2.2.2.1, g1.2.2.2.2.2.2.2.2.1, g1.2.2.2.2.2.2.2.2.2.1, g1.2.2.2.2.2.2.2.2.2.2.1, g1.2.2.2.2.2.2.2.2.2.2.2.1, g1.2.2.2.2.2.2.2.2.2.2.2.2))) else (if 0 ≤ (lg_cmp (Int32.toInt64 a2) 1073735023) then (some (0, (r2, g1.2.1, g1.2.2.1, g1.2.2.2.1, g1.2.2.2.2.1, g1.2.2.2.2.2.1, g1.2.2.2.2.2.2.1, g1.2.2.2.2.2.2.2.1, g1.2.2.2.2.2.2.2.2.1, g1.2.2.2.2.2.2.2.2.2.1, g1.2.2.2.2.2.2.2.2.2.2.1, g1.2.2.2.2.2.2.2.2.2.2.2.1, g1.2.2.2.2.2.2.2.2.2.2.2.2))) else (Option.bind (f_M_isScalar a3) (fun r4 => if r4 = 0 then (some (0, (r2, g1.2.1, g1.2.2.1, g1.2.2.2.1, g1.2.2.2.2.1, g1.2.2.2.2.2.1, g1.2.2.2.2.2.2.1, g1.2.2.2.2.2.2.2.1, g1.2.2.2.2.2.2.2.2.1, g1.2.2.2.2.2.2.2.2.2.1, g1.2.2.2.2.2.2.2.2.2.2.1, g1.2.2.2.2.2.2.2.2.2.2.2.1, g1.2.2.2.2.2.2.2.2.2.2.2.2))) else (if a0 < 0 ∨ 6 ≤ Int32.toNatClampNeg a0 then none else (Option.bind (f_M_xOf (g1.2.1 (Int32.toNatClampNeg a0))) (fun r6 => Option.bind (f_M_challenge (Int32.toInt64 a2) r6 a1) (fun r7 => Option.bind (f_M_g ) (fun r8 => Option.bind (f_M_times (Int32.toInt64 a3) r8) (fun r9 => Option.bind (f_M_lift r6 0) (fun r10 => Option.bind (f_M_times (1073729077 - r7) r10) (fun r11 => Option.bind (f_M_sum r9 r11) (fun r12 => Option.bind (if (lg_cmp r12 (-1)) = 0 then (some (0) : Option (Int32)) else (Option.bind (f_M_odd r12) (fun r18 => if r18 = 0 then (Option.bind (f_M_xOf r12) (fun r19 => if (lg_cmp r19 (Int32.toInt64 a2)) = 0 then (some (1)) else (some (0)))) else (some (0))))) (fun j13 => if j13 = 0 ∨ j13 = 1 then some (j13, (r2, g1.2.1, g1.2.2.1, g1.2.2.2.1, g1.2.2.2.2.1, g1.2.2.2.2.2.1, g1.2.2.2.2.2.2.1, g1.2.2.2.2.2.2.2.1, g1.2.2.2.2.2.2.2.2.1, g1.2.2.2.2.2.2.2.2.2.1, g1.2.2.2.2.2.2.2.2.2.2.1, g1.2.2.2.2.2.2.2.2.2.2.2.1, g1.2.2.2.2.2.2.2.2.2.2.2.2)) else none)))))))))))))) else (some (0, (r2, g1.2.1, g1.2.2.1, g1.2.2.2.1, g1.2.2.2.2.1, g1.2.2.2.2.2.1, g1.2.2.2.2.2.2.1, g1.2.2.2.2.2.2.2.1, g1.2.2.2.2.2.2.2.2.1, g1.2.2.2.2.2.2.2.2.2.1, g1.2.2.2.2.2.2.2.2.2.2.1, g1.2.2.2.2.2.2.2.2.2.2.2.1, g1.2.2.2.2.2.2.2.2.2.2.2.2)))))
abbrev rm_M_holds : Room := { frames := 5, cells := 0, slots := 0, locals := 147 }
set_option maxHeartbeats 4000000 in
set_option maxRecDepth 100000 in
theorem k_M_holds (l : Launch) (D : va_G) (A : Nat → Nat) (cc : Nat → ClassId) (g0 : sM) (a0 : Int32) (a1 : Int64) (a2 : Int32) (a3 : Int32) (sz : Nat) (res : (Int32 × sM)) (hF : f_M_holds g0 a0 a1 a2 a3 = some res) : Met l y_M_holds (Cond.code y_M_holds b_M_holds 12 (some .boolean) :: wa) rm_M_holds (pw D (wM A cc g0) (kM cc) [.ref (A 0), .int a0, .long a1, .int a2, .int a3] sz) (va_Qi (fun r u => (r, u) = res) (bw D (wM A cc) (kM cc) (va_A (wM A cc g0) sz)) (va_A (wM A cc g0) sz)) 0 0 (va_A (wM A cc g0) sz) := by
  refine Met.ofW (cc := b_M_holds) (maxL := 12) (ret := (some .boolean)) (by decide) rfl ?_
  intro p e s m args below meth c s₁ B hml hv
  obtain ⟨rfl, hsz, hP, hK, hD0, hN⟩ := hv
  have hx := B.exec
  have hb := B.bytes
  have hr := B.returns
  have hts := atoms_spec (ws := Cond.code y_M_holds b_M_holds 12 (some .boolean) :: wa) B.pre
  have hw : ∀ w ∈ wa, w.before _ s = true := fun w h => hts w (List.mem_cons_of_mem _ h)
  have hown : s.vm.findClass R_M = some m.cls := findClass_of_methodNamed B.named
  have hlocks := B.notSynchronized
  subst hsz
  have hD := hD0.self (sz := s.heap.size)
  generalize hAe : va_A (wM A cc g0) s.heap.size = AA at hD ⊢
  have hA : ∀ q : Nat, s.heap.size ≤ q → AA q := fun q h => by rw [← hAe]; exact Or.inr h
  have hS : va_S AA s.heap s.heap [] := va_S.rf
  have hl := lv_entry ([.ref (A 0), .int a0, .long a1, .int a2, .int a3]) (n := 12) (Nat.le_of_ble_eq_true rfl)
  rw [lg_entry_eq]
  generalize (lg_sl ([.ref (A 0), .int a0, .long a1, .int a2, .int a3]) ++ List.replicate (12 - (lg_sl ([.ref (A 0), .int a0, .long a1, .int a2, .int a3])).length) Slot.unset).toArray = ls at hl ⊢
  have hl : lv_has ls 12 [(0, .ref (A 0)), (1, .int a0), (2, .long a1), (4, .int a2), (5, .int a3)] := hl
  unfold f_M_holds at hF
  refine lv_aload_n hx hb d_M_holds_0 rfl (lv_at hl 0 rfl) ?_
  refine lv_aload_n hx hb d_M_holds_1 rfl (lv_at hl 0 rfl) ?_
  refine lv_iload_n hx hb d_M_holds_2 rfl (lv_at hl 1 rfl) ?_
  obtain ⟨⟨r2, g1⟩, e_g1, hF⟩ := Option.bind_eq_some_iff.mp hF
  have hFc := va_free (wc := wM A cc g0) hD hS hA [0, 1, 2, 3, 4, 5, 6, 7, 8] rfl
  refine va_calli (va_runV (As := [.int a0]) (rest := [.ref (A 0)]) ⟨hx, hb, hml, hown, hts⟩ (k_M_noPoint l D A cc g0 a0 _ (r2, g1) e_g1) (cwV 1 hts (ga_V ww_692 ww_694 wp_10 ww_4 ww_695) rfl rfl rfl (by decide +kernel) ⟨by decide, by decide⟩) (pw_pre (q0 := 0) (ci := 3) hP hK hD hN rfl rfl) rfl rfl hl.1 rfl (lv_room (Nat.le_of_ble_eq_true rfl)) d_M_holds_3 ⟨Nat.zero_le _, Nat.zero_le _⟩) hS (fun q _ h => hFc q h) hFc (fun r9 u9 t H locs ht hvm hp hB hz1 hk1 hS => ?_)
  obtain ⟨rfl, rfl⟩ := Prod.mk.inj hp.symm
  obtain ⟨hP, hD⟩ := bw_back hB ht hFc
  refine va_put (D := D) (ci := 3) (v := .int r2) (ty := .int) (C := R_M) (T := T_M) (N := 13) hx hb hts in_M ft_M ft_M_ok fn_M hown hK hP hD hS 0 rfl rfl 0 (by decide) (hw _ ww_534) (fun _ h9 => h9) rfl (by decide +kernel) rfl rfl (Nat.le_of_ble_eq_true rfl) d_M_holds_6 (fun H locs hP hD hS => ?_)
  have hP : va_P D vwC (wM A cc (r2, g1.2.1, g1.2.2.1, g1.2.2.2.1, g1.2.2.2.2.1, g1.2.2.2.2.2.1, g1.2.2.2.2.2.2.1, g1.2.2.2.2.2.2.2.1, g1.2.2.2.2.2.2.2.2.1, g1.2.2.2.2.2.2.2.2.2.1, g1.2.2.2.2.2.2.2.2.2.2.1, g1.2.2.2.2.2.2.2.2.2.2.2.1, g1.2.2.2.2.2.2.2.2.2.2.2.2)) H := hP
  have hD : va_D AA (wM A cc (r2, g1.2.1, g1.2.2.1, g1.2.2.2.1, g1.2.2.2.2.1, g1.2.2.2.2.2.1, g1.2.2.2.2.2.2.1, g1.2.2.2.2.2.2.2.1, g1.2.2.2.2.2.2.2.2.1, g1.2.2.2.2.2.2.2.2.2.1, g1.2.2.2.2.2.2.2.2.2.2.1, g1.2.2.2.2.2.2.2.2.2.2.2.1, g1.2.2.2.2.2.2.2.2.2.2.2.2)) := hD
  refine lv_aload_n hx hb d_M_holds_9 rfl (lv_at hl 0 rfl) ?_
  refine va_get (D := D) (ci := 3) (v := .int r2) (C := R_M) (T := T_M) (N := 13) hx hb hts in_M hown hK hP 0 rfl rfl 0 (by decide) (hw _ ww_534) (fun _ h9 => h9) rfl d_M_holds_10 ?_
  refine lv_if_ne hx hb d_M_holds_13 (tgt := 39) (by decide) (fun h9 => ?_) (fun h9 => ?_)
  · have hF := (if_neg h9).symm.trans hF
    refine lv_iconst (v := 0) hx hb d_M_holds_39 (by decide) ?_
    obtain rfl := Option.some.inj hF
    exact W.zret hx hb hr (by decide) (fun t ht hW => ⟨⟨_, _, rfl, rfl, bw_end hP hK hD ht hW⟩, hS.F ht⟩) hS.2.2 d_M_holds_40
  · have hF := (if_pos h9).symm.trans hF
    refine lv_iload hx hb d_M_holds_16 (lv_at hl 3 rfl) ?_
    refine lv_if_lt hx hb d_M_holds_18 (tgt := 39) (by decide) (fun h9 => ?_) (fun h9 => ?_)
    · have hF := (if_pos h9).symm.trans hF
      refine lv_iconst (v := 0) hx hb d_M_holds_39 (by decide) ?_
      obtain rfl := Option.some.inj hF
      exact W.zret hx hb hr (by decide) (fun t ht hW => ⟨⟨_, _, rfl, rfl, bw_end hP hK hD ht hW⟩, hS.F ht⟩) hS.2.2 d_M_holds_40
    · have hF := (if_neg h9).symm.trans hF
      refine lv_iload hx hb d_M_holds_21 (lv_at hl 3 rfl) ?_
      refine lv_i2l (v := Int32.toInt64 a2) hx hb d_M_holds_23 rfl ?_
      refine lv_ldc2 (v := 1073735023) hx hb hown (hw _ ww_605) d_M_holds_24 ?_
      refine W.lcmp hx hb d_M_holds_27 ?_
      refine lv_if_ge hx hb d_M_holds_28 (tgt := 39) (by decide) (fun h9 => ?_) (fun h9 => ?_)
      · have hF := (if_pos h9).symm.trans hF
        refine lv_iconst (v := 0) hx hb d_M_holds_39 (by decide) ?_
        obtain rfl := Option.some.inj hF
        exact W.zret hx hb hr (by decide) (fun t ht hW => ⟨⟨_, _, rfl, rfl, bw_end hP hK hD ht hW⟩, hS.F ht⟩) hS.2.2 d_M_holds_40
      · have hF := (if_neg h9).symm.trans hF
        refine lv_iload hx hb d_M_holds_31 (lv_at hl 4 rfl) ?_
        obtain ⟨r4, e_r4, hF⟩ := Option.bind_eq_some_iff.mp hF
        refine vp_callSi (va_runS (As := [.int a3]) (rest := []) ⟨hx, hb, hml, hown, hts⟩ (k_M_isScalar l a3 r4 e_r4) (va_cwS 1 hts (ga_S ww_651 ww_652 ww_4 ww_653) rfl rfl rfl (by decide +kernel) ⟨by decide, by decide⟩) (pcs_pre hN) rfl rfl hl.1 rfl (lv_room (Nat.le_of_ble_eq_true rfl)) d_M_holds_33 ⟨Nat.zero_le _, Nat.zero_le _⟩).run (fun z9 hz9 => ?_)
        obtain rfl : r4 = z9 := hz9.symm
        refine lv_if_ne hx hb d_M_holds_36 (tgt := 41) (by decide) (fun h9 => ?_) (fun h9 => ?_)
        · have hF := (if_neg h9).symm.trans hF
          refine lv_aload_n hx hb d_M_holds_41 rfl (lv_at hl 0 rfl) ?_
          refine va_get (D := D) (ci := 3) (v := .ref (A 1)) (C := R_M) (T := T_M) (N := 13) hx hb hts in_M hown hK hP 0 rfl rfl 1 (by decide) (hw _ ww_535) (fun _ h9 => h9) rfl d_M_holds_42 ?_
          refine lv_iload_n hx hb d_M_holds_45 rfl (lv_at hl 1 rfl) ?_
          by_cases h5 : a0 < 0 ∨ 6 ≤ Int32.toNatClampNeg a0
          · have h0 := (if_pos h5).symm.trans hF; cases h0
          have hF := (if_neg h5).symm.trans hF
          refine va_lald hx hb hK hP 1 0 rfl rfl h5 d_M_holds_46 ?_
          obtain ⟨r6, e_r6, hF⟩ := Option.bind_eq_some_iff.mp hF
          refine vp_callSl (va_runS (As := [.long (g1.2.1 (Int32.toNatClampNeg a0))]) (rest := []) ⟨hx, hb, hml, hown, hts⟩ (k_M_xOf l (g1.2.1 (Int32.toNatClampNeg a0)) r6 e_r6) (va_cwS 1 hts (ga_S ww_597 ww_598 ww_4 ww_599) rfl rfl rfl (by decide +kernel) ⟨by decide, by decide⟩) (pcs_pre hN) rfl rfl hl.1 rfl (lv_room (Nat.le_of_ble_eq_true rfl)) d_M_holds_47 ⟨Nat.zero_le _, Nat.zero_le _⟩).run (fun z9 hz9 => ?_)
          obtain rfl : r6 = z9 := hz9.symm
          refine lv_lstore hx hb d_M_holds_50 hl (by decide) (lv' := [(6, .long r6), (0, .ref (A 0)), (1, .int a0), (2, .long a1), (4, .int a2), (5, .int a3)]) rfl (fun ls hl => ?_)
          refine lv_iload hx hb d_M_holds_52 (lv_at hl 4 rfl) ?_
          refine lv_i2l (v := Int32.toInt64 a2) hx hb d_M_holds_54 rfl ?_
          refine lv_lload hx hb d_M_holds_55 (lv_at hl 0 rfl) ?_
          refine lv_lload_n hx hb d_M_holds_57 rfl (lv_at hl 3 rfl) ?_
          obtain ⟨r7, e_r7, hF⟩ := Option.bind_eq_some_iff.mp hF
          refine vp_callSl (va_runS (As := [.long (Int32.toInt64 a2), .long r6, .long a1]) (rest := []) ⟨hx, hb, hml, hown, hts⟩ (k_M_challenge l (Int32.toInt64 a2) r6 a1 r7 e_r7) (va_cwS 3 hts (ga_S ww_705 ww_706 ww_4 ww_707) rfl rfl rfl (by decide +kernel) ⟨by decide, by decide⟩) (pcs_pre hN) rfl rfl hl.1 rfl (lv_room (Nat.le_of_ble_eq_true rfl)) d_M_holds_58 ⟨Nat.zero_le _, Nat.zero_le _⟩).run (fun z9 hz9 => ?_)
          obtain rfl : r7 = z9 := hz9.symm
          refine lv_lstore hx hb d_M_holds_61 hl (by decide) (lv' := [(8, .long r7), (6, .long r6), (0, .ref (A 0)), (1, .int a0), (2, .long a1), (4, .int a2), (5, .int a3)]) rfl (fun ls hl => ?_)
          refine lv_iload hx hb d_M_holds_63 (lv_at hl 6 rfl) ?_
          refine lv_i2l (v := Int32.toInt64 a3) hx hb d_M_holds_65 rfl ?_
          obtain ⟨r8, e_r8, hF⟩ := Option.bind_eq_some_iff.mp hF
          refine vp_callSl (va_runS (As := []) (rest := [.long (Int32.toInt64 a3)]) ⟨hx, hb, hml, hown, hts⟩ (k_M_g l  r8 e_r8) (va_cwS 0 hts (ga_S ww_586 ww_587 ww_4 ww_588) rfl rfl rfl (by decide +kernel) ⟨by decide, by decide⟩) (pcs_pre hN) rfl rfl hl.1 rfl (lv_room (Nat.le_of_ble_eq_true rfl)) d_M_holds_66 ⟨Nat.zero_le _, Nat.zero_le _⟩).run (fun z9 hz9 => ?_)
          obtain rfl : r8 = z9 := hz9.symm
          obtain ⟨r9, e_r9, hF⟩ := Option.bind_eq_some_iff.mp hF
          refine vp_callSl (va_runS (As := [.long (Int32.toInt64 a3), .long r8]) (rest := []) ⟨hx, hb, hml, hown, hts⟩ (k_M_times l (Int32.toInt64 a3) r8 r9 e_r9) (va_cwS 2 hts (ga_S ww_590 ww_591 ww_4 ww_592) rfl rfl rfl (by decide +kernel) ⟨by decide, by decide⟩) (pcs_pre hN) rfl rfl hl.1 rfl (lv_room (Nat.le_of_ble_eq_true rfl)) d_M_holds_69 ⟨Nat.zero_le _, Nat.zero_le _⟩).run (fun z9 hz9 => ?_)
          obtain rfl : r9 = z9 := hz9.symm
          refine lv_ldc2 (v := 1073729077) hx hb hown (hw _ ww_585) d_M_holds_72 ?_
          refine lv_lload hx hb d_M_holds_75 (lv_at hl 0 rfl) ?_
          refine lv_lsub hx hb d_M_holds_77 ?_
          refine lv_lload hx hb d_M_holds_78 (lv_at hl 1 rfl) ?_
          refine lv_iconst (v := 0) hx hb d_M_holds_80 (by decide) ?_
          obtain ⟨r10, e_r10, hF⟩ := Option.bind_eq_some_iff.mp hF
          refine vp_callSl (va_runS (As := [.long r6, .int 0]) (rest := [.long (1073729077 - r7), .long r9]) ⟨hx, hb, hml, hown, hts⟩ (k_M_lift l r6 0 r10 e_r10) (va_cwS 2 hts (ga_S ww_626 ww_627 ww_4 ww_628) rfl rfl rfl (by decide +kernel) ⟨by decide, by decide⟩) (pcs_pre hN) rfl rfl hl.1 rfl (lv_room (Nat.le_of_ble_eq_true rfl)) d_M_holds_81 ⟨Nat.zero_le _, Nat.zero_le _⟩).run (fun z9 hz9 => ?_)
          obtain rfl : r10 = z9 := hz9.symm
          obtain ⟨r11, e_r11, hF⟩ := Option.bind_eq_some_iff.mp hF
          refine vp_callSl (va_runS (As := [.long (1073729077 - r7), .long r10]) (rest := [.long r9]) ⟨hx, hb, hml, hown, hts⟩ (k_M_times l (1073729077 - r7) r10 r11 e_r11) (va_cwS 2 hts (ga_S ww_590 ww_591 ww_4 ww_592) rfl rfl rfl (by decide +kernel) ⟨by decide, by decide⟩) (pcs_pre hN) rfl rfl hl.1 rfl (lv_room (Nat.le_of_ble_eq_true rfl)) d_M_holds_84 ⟨Nat.zero_le _, Nat.zero_le _⟩).run (fun z9 hz9 => ?_)
          obtain rfl : r11 = z9 := hz9.symm
          obtain ⟨r12, e_r12, hF⟩ := Option.bind_eq_some_iff.mp hF
          refine vp_callSl (va_runS (As := [.long r9, .long r11]) (rest := []) ⟨hx, hb, hml, hown, hts⟩ (k_M_sum l r9 r11 r12 e_r12) (va_cwS 2 hts (ga_S ww_594 ww_595 ww_4 ww_596) rfl rfl rfl (by decide +kernel) ⟨by decide, by decide⟩) (pcs_pre hN) rfl rfl hl.1 rfl (lv_room (Nat.le_of_ble_eq_true rfl)) d_M_holds_87 ⟨Nat.zero_le _, Nat.zero_le _⟩).run (fun z9 hz9 => ?_)
          obtain rfl : r12 = z9 := hz9.symm
          refine lv_lstore hx hb d_M_holds_90 hl (by decide) (lv' := [(10, .long r12), (8, .long r7), (6, .long r6), (0, .ref (A 0)), (1, .int a0), (2, .long a1), (4, .int a2), (5, .int a3)]) rfl (fun ls hl => ?_)
          refine lv_lload hx hb d_M_holds_92 (lv_at hl 0 rfl) ?_
          refine lv_ldc2 (v := (-1)) hx hb hown (hw _ ww_533) d_M_holds_94 ?_
          refine W.lcmp hx hb d_M_holds_97 ?_
          obtain ⟨j13, q15, hF⟩ := Option.bind_eq_some_iff.mp hF
          have k14 : ∀ (H : Heap) (locs : List Loc) (ls : Array Slot), va_P D vwC (wM A cc (r2, g1.2.1, g1.2.2.1, g1.2.2.2.1, g1.2.2.2.2.1, g1.2.2.2.2.2.1, g1.2.2.2.2.2.2.1, g1.2.2.2.2.2.2.2.1, g1.2.2.2.2.2.2.2.2.1, g1.2.2.2.2.2.2.2.2.2.1, g1.2.2.2.2.2.2.2.2.2.2.1, g1.2.2.2.2.2.2.2.2.2.2.2.1, g1.2.2.2.2.2.2.2.2.2.2.2.2)) H → va_D AA (wM A cc (r2, g1.2.1, g1.2.2.1, g1.2.2.2.1, g1.2.2.2.2.1, g1.2.2.2.2.2.1, g1.2.2.2.2.2.2.1, g1.2.2.2.2.2.2.2.1, g1.2.2.2.2.2.2.2.2.1, g1.2.2.2.2.2.2.2.2.2.1, g1.2.2.2.2.2.2.2.2.2.2.1, g1.2.2.2.2.2.2.2.2.2.2.2.1, g1.2.2.2.2.2.2.2.2.2.2.2.2)) → va_S AA s.heap H locs → lv_has ls 12 [] → W p l e rm_M_holds s m ([Value.ref (A 0), Value.int a0, Value.long a1, Value.int a2, Value.int a3] : List Value).toArray below meth c H locs 0 0 (MQ below (va_Qi (fun r u => (r, u) = res) (bw D (wM A cc) (kM cc) AA) AA) ([Value.ref (A 0), Value.int a0, Value.long a1, Value.int a2, Value.int a3] : List Value).toArray s 0 0 AA) (F0 m 126 ls [.int j13]) := by
            intro H locs ls hP hD hS hl
            by_cases h17 : ¬ (j13 = 0 ∨ j13 = 1)
            · have h0 := (if_neg h17).symm.trans hF; cases h0
            have h17 := Classical.not_not.mp h17
            have hF := (if_pos h17).symm.trans hF
            obtain rfl := Option.some.inj hF
            exact W.zret hx hb hr (nz_b h17) (fun t ht hW => ⟨⟨_, _, rfl, rfl, bw_end hP hK hD ht hW⟩, hS.F ht⟩) hS.2.2 d_M_holds_126
          clear hF
          have hF := q15
          refine lv_if_eq hx hb d_M_holds_98 (tgt := 125) (by decide) (fun h9 => ?_) (fun h9 => ?_)
          · have hF := (if_pos h9).symm.trans hF
            refine lv_iconst (v := 0) hx hb d_M_holds_125 (by decide) ?_
            obtain rfl := Option.some.inj hF
            exact k14 _ _ ls hP hD hS (lv_sub hl [] rfl)
          · have hF := (if_neg h9).symm.trans hF
            refine lv_lload hx hb d_M_holds_101 (lv_at hl 0 rfl) ?_
            obtain ⟨r18, e_r18, hF⟩ := Option.bind_eq_some_iff.mp hF
            refine vp_callSi (va_runS (As := [.long r12]) (rest := []) ⟨hx, hb, hml, hown, hts⟩ (k_M_odd l r12 r18 e_r18) (va_cwS 1 hts (ga_S ww_681 ww_682 ww_4 ww_683) rfl rfl rfl (by decide +kernel) ⟨by decide, by decide⟩) (pcs_pre hN) rfl rfl hl.1 rfl (lv_room (Nat.le_of_ble_eq_true rfl)) d_M_holds_103 ⟨Nat.zero_le _, Nat.zero_le _⟩).run (fun z9 hz9 => ?_)
            obtain rfl : r18 = z9 := hz9.symm
            refine lv_if_ne hx hb d_M_holds_106 (tgt := 125) (by decide) (fun h9 => ?_) (fun h9 => ?_)
            · have hF := (if_neg h9).symm.trans hF
              refine lv_iconst (v := 0) hx hb d_M_holds_125 (by decide) ?_
              obtain rfl := Option.some.inj hF
              exact k14 _ _ ls hP hD hS (lv_sub hl [] rfl)
            · have hF := (if_pos h9).symm.trans hF
              refine lv_lload hx hb d_M_holds_109 (lv_at hl 0 rfl) ?_
              obtain ⟨r19, e_r19, hF⟩ := Option.bind_eq_some_iff.mp hF
              refine vp_callSl (va_runS (As := [.long r12]) (rest := []) ⟨hx, hb, hml, hown, hts⟩ (k_M_xOf l r12 r19 e_r19) (va_cwS 1 hts (ga_S ww_597 ww_598 ww_4 ww_599) rfl rfl rfl (by decide +kernel) ⟨by decide, by decide⟩) (pcs_pre hN) rfl rfl hl.1 rfl (lv_room (Nat.le_of_ble_eq_true rfl)) d_M_holds_111 ⟨Nat.zero_le _, Nat.zero_le _⟩).run (fun z9 hz9 => ?_)
              obtain rfl : r19 = z9 := hz9.symm
              refine lv_iload hx hb d_M_holds_114 (lv_at hl 6 rfl) ?_
              refine lv_i2l (v := Int32.toInt64 a2) hx hb d_M_holds_116 rfl ?_
              refine W.lcmp hx hb d_M_holds_117 ?_
              refine lv_if_ne hx hb d_M_holds_118 (tgt := 125) (by decide) (fun h9 => ?_) (fun h9 => ?_)
              · have hF := (if_neg h9).symm.trans hF
                refine lv_iconst (v := 0) hx hb d_M_holds_125 (by decide) ?_
                obtain rfl := Option.some.inj hF
                exact k14 _ _ ls hP hD hS (lv_sub hl [] rfl)
              · have hF := (if_pos h9).symm.trans hF
                refine lv_iconst (v := 1) hx hb d_M_holds_121 (by decide) ?_
                refine lv_goto hx hb d_M_holds_122 (tgt := 126) (by decide) ?_
                obtain rfl := Option.some.inj hF
                exact k14 _ _ ls hP hD hS (lv_sub hl [] rfl)
        · have hF := (if_pos h9).symm.trans hF
          refine lv_iconst (v := 0) hx hb d_M_holds_39 (by decide) ?_
          obtain rfl := Option.some.inj hF
          exact W.zret hx hb hr (by decide) (fun t ht hW => ⟨⟨_, _, rfl, rfl, bw_end hP hK hD ht hW⟩, hS.F ht⟩) hS.2.2 d_M_holds_40
def f_M_bundle (g0 : sM) (a0 : Int32) (a1 : Int64) (a2 : Int32) (a3 : Int32) : Option (Int32 × sM) := Option.bind (f_M_noPoint g0 a0) (fun t3 => match t3 with | (r2, g1) => (Option.bind (if r2 = 0 then (if g1.2.2.2.2.1 = 8 then (some (3, g1)) else (some (0, g1)) : Option (Int32 × sM)) else (Option.bind (f_M_noPoint g1 a0) (fun t17 => match t17 with | (r16, g15) => (some (r16, g15))))) (fun t8 => match t8 with | (j4, j5) => (if j4 = 0 then (if a0 < 0 ∨ 6 ≤ Int32.toNatClampNeg a0 then none else (Option.bind (f_M_xOf (j5.2.1 (Int32.toNatClampNeg a0))) (fun r10 => if j5.2.2.2.2.1 < 0 ∨ 8 ≤ Int32.toNatClampNeg j5.2.2.2.2.1 then none else (if j5.2.2.2.2.1 < 0 ∨ 8 ≤ Int32.toNatClampNeg j5.2.2.2.2.1 then none else (if j5.2.2.2.2.1 < 0 ∨ 8 ≤ Int32.toNatClampNeg j5.2.2.2.2.1 then none else (if j5.2.2.2.2.1 < 0 ∨ 8 ≤ Int32.toNatClampNeg j5.2.2.2.2.1 then none else (some ((j5.2.2.2.2.1 + 1), (j4, j5.2.1, j5.2.2.1, j5.2.2.2.1, (j5.2.2.2.2.1 + 1), (vp_updL j5.2.2.2.2.2.1 (Int32.toNatClampNeg j5.2.2.2.2.1) r10), (vp_updL j5.2.2.2.2.2.2.1 (Int32.toNatClampNeg j5.2.2.2.2.1) a1), (upd j5.2.2.2.2.2.2.2.1 (Int32.toNatClampNeg j5.2.2.2.2.1) a2), (upd j5.2.2.2.2.2.2.2.2.1 (Int32.toNatClampNeg j5.2.2.2.2.1) a3), j5.2.2.2.2.2.2.2.2.2.1, j5.2.2.2.2.2.2.2.2.2.2.1, j5.2.2.2.2.2.2.2.2.2.2.2.1, j5.2.2.2.2.2.2.2.2.2.2.2.2))))))))) else (some (0, (j4, j5.2.1, j5.2.2.1, j5.2.2.2.1, j5.2.2.2.2.1, j5.2.2.2.2.2.1, j5.2.2.2.2.2.2.1, j5.2.2.2.2.2.2.2.1, j5.2.2.2.2.2.2.2.2.1, j5.2.2.2.2.2.2.2.2.2.1, j5.2.2.2.2.2.2.2.2.2.2.1, j5.2.2.2.2.2.2.2.2.2.2.2.1, j5.2.2.2.2.2.2.2.2.2.2.2.2)))))))
abbrev rm_M_bundle : Room := { frames := 2, cells := 0, slots := 0, locals := 42 }
set_option maxHeartbeats 4000000 in
set_option maxRecDepth 100000 in
theorem k_M_bundle (l : Launch) (D : va_G) (A : Nat → Nat) (cc : Nat → ClassId) (g0 : sM) (a0 : Int32) (a1 : Int64) (a2 : Int32) (a3 : Int32) (sz : Nat) (res : (Int32 × sM)) (hF : f_M_bundle g0 a0 a1 a2 a3 = some res) : Met l y_M_bundle (Cond.code y_M_bundle b_M_bundle 6 (some .int) :: wa) rm_M_bundle (pw D (wM A cc g0) (kM cc) [.ref (A 0), .int a0, .long a1, .int a2, .int a3] sz) (va_Qi (fun r u => (r, u) = res) (bw D (wM A cc) (kM cc) (va_A (wM A cc g0) sz)) (va_A (wM A cc g0) sz)) 0 0 (va_A (wM A cc g0) sz) := by
  refine Met.ofW (cc := b_M_bundle) (maxL := 6) (ret := (some .int)) (by decide) rfl ?_
  intro p e s m args below meth c s₁ B hml hv
  obtain ⟨rfl, hsz, hP, hK, hD0, hN⟩ := hv
  have hx := B.exec
  have hb := B.bytes
  have hr := B.returns
  have hts := atoms_spec (ws := Cond.code y_M_bundle b_M_bundle 6 (some .int) :: wa) B.pre
  have hw : ∀ w ∈ wa, w.before _ s = true := fun w h => hts w (List.mem_cons_of_mem _ h)
  have hown : s.vm.findClass R_M = some m.cls := findClass_of_methodNamed B.named
  have hlocks := B.notSynchronized
  subst hsz
  have hD := hD0.self (sz := s.heap.size)
  generalize hAe : va_A (wM A cc g0) s.heap.size = AA at hD ⊢
  have hA : ∀ q : Nat, s.heap.size ≤ q → AA q := fun q h => by rw [← hAe]; exact Or.inr h
  have hS : va_S AA s.heap s.heap [] := va_S.rf
  have hl := lv_entry ([.ref (A 0), .int a0, .long a1, .int a2, .int a3]) (n := 6) (Nat.le_of_ble_eq_true rfl)
  rw [lg_entry_eq]
  generalize (lg_sl ([.ref (A 0), .int a0, .long a1, .int a2, .int a3]) ++ List.replicate (6 - (lg_sl ([.ref (A 0), .int a0, .long a1, .int a2, .int a3])).length) Slot.unset).toArray = ls at hl ⊢
  have hl : lv_has ls 6 [(0, .ref (A 0)), (1, .int a0), (2, .long a1), (4, .int a2), (5, .int a3)] := hl
  unfold f_M_bundle at hF
  refine lv_aload_n hx hb d_M_bundle_0 rfl (lv_at hl 0 rfl) ?_
  refine lv_aload_n hx hb d_M_bundle_1 rfl (lv_at hl 0 rfl) ?_
  refine lv_iload_n hx hb d_M_bundle_2 rfl (lv_at hl 1 rfl) ?_
  obtain ⟨⟨r2, g1⟩, e_g1, hF⟩ := Option.bind_eq_some_iff.mp hF
  have hFc := va_free (wc := wM A cc g0) hD hS hA [0, 1, 2, 3, 4, 5, 6, 7, 8] rfl
  refine va_calli (va_runV (As := [.int a0]) (rest := [.ref (A 0)]) ⟨hx, hb, hml, hown, hts⟩ (k_M_noPoint l D A cc g0 a0 _ (r2, g1) e_g1) (cwV 1 hts (ga_V ww_692 ww_694 wp_10 ww_4 ww_695) rfl rfl rfl (by decide +kernel) ⟨by decide, by decide⟩) (pw_pre (q0 := 0) (ci := 3) hP hK hD hN rfl rfl) rfl rfl hl.1 rfl (lv_room (Nat.le_of_ble_eq_true rfl)) d_M_bundle_3 ⟨Nat.zero_le _, Nat.zero_le _⟩) hS (fun q _ h => hFc q h) hFc (fun r9 u9 t H locs ht hvm hp hB hz1 hk1 hS => ?_)
  obtain ⟨rfl, rfl⟩ := Prod.mk.inj hp.symm
  obtain ⟨hP, hD⟩ := bw_back hB ht hFc
  obtain ⟨⟨j4, j5⟩, q7, hF⟩ := Option.bind_eq_some_iff.mp hF
  have k6 : ∀ (H : Heap) (locs : List Loc) (ls : Array Slot), va_P D vwC (wM A cc j5) H → va_D AA (wM A cc j5) → va_S AA s.heap H locs → lv_has ls 6 [(0, .ref (A 0)), (1, .int a0), (2, .long a1), (4, .int a2), (5, .int a3)] → W p l e rm_M_bundle s m ([Value.ref (A 0), Value.int a0, Value.long a1, Value.int a2, Value.int a3] : List Value).toArray below meth c H locs 0 0 (MQ below (va_Qi (fun r u => (r, u) = res) (bw D (wM A cc) (kM cc) AA) AA) ([Value.ref (A 0), Value.int a0, Value.long a1, Value.int a2, Value.int a3] : List Value).toArray s 0 0 AA) (F0 m 31 ls [.int j4, .ref (A 0)]) := by
    intro H locs ls hP hD hS hl
    refine va_put (D := D) (ci := 3) (v := .int j4) (ty := .int) (C := R_M) (T := T_M) (N := 13) hx hb hts in_M ft_M ft_M_ok fn_M hown hK hP hD hS 0 rfl rfl 0 (by decide) (hw _ ww_534) (fun _ h9 => h9) rfl (by decide +kernel) rfl rfl (Nat.le_of_ble_eq_true rfl) d_M_bundle_31 (fun H locs hP hD hS => ?_)
    have hP : va_P D vwC (wM A cc (j4, j5.2.1, j5.2.2.1, j5.2.2.2.1, j5.2.2.2.2.1, j5.2.2.2.2.2.1, j5.2.2.2.2.2.2.1, j5.2.2.2.2.2.2.2.1, j5.2.2.2.2.2.2.2.2.1, j5.2.2.2.2.2.2.2.2.2.1, j5.2.2.2.2.2.2.2.2.2.2.1, j5.2.2.2.2.2.2.2.2.2.2.2.1, j5.2.2.2.2.2.2.2.2.2.2.2.2)) H := hP
    have hD : va_D AA (wM A cc (j4, j5.2.1, j5.2.2.1, j5.2.2.2.1, j5.2.2.2.2.1, j5.2.2.2.2.2.1, j5.2.2.2.2.2.2.1, j5.2.2.2.2.2.2.2.1, j5.2.2.2.2.2.2.2.2.1, j5.2.2.2.2.2.2.2.2.2.1, j5.2.2.2.2.2.2.2.2.2.2.1, j5.2.2.2.2.2.2.2.2.2.2.2.1, j5.2.2.2.2.2.2.2.2.2.2.2.2)) := hD
    refine lv_aload_n hx hb d_M_bundle_34 rfl (lv_at hl 0 rfl) ?_
    refine va_get (D := D) (ci := 3) (v := .int j4) (C := R_M) (T := T_M) (N := 13) hx hb hts in_M hown hK hP 0 rfl rfl 0 (by decide) (hw _ ww_534) (fun _ h9 => h9) rfl d_M_bundle_35 ?_
    refine lv_if_eq hx hb d_M_bundle_38 (tgt := 43) (by decide) (fun h9 => ?_) (fun h9 => ?_)
    · have hF := (if_pos h9).symm.trans hF
      refine lv_aload_n hx hb d_M_bundle_43 rfl (lv_at hl 0 rfl) ?_
      refine va_get (D := D) (ci := 3) (v := .ref (A 3)) (C := R_M) (T := T_M) (N := 13) hx hb hts in_M hown hK hP 0 rfl rfl 5 (by decide) (hw _ ww_539) (fun _ h9 => h9) rfl d_M_bundle_44 ?_
      refine lv_aload_n hx hb d_M_bundle_47 rfl (lv_at hl 0 rfl) ?_
      refine va_get (D := D) (ci := 3) (v := .int j5.2.2.2.2.1) (C := R_M) (T := T_M) (N := 13) hx hb hts in_M hown hK hP 0 rfl rfl 4 (by decide) (hw _ ww_538) (fun _ h9 => h9) rfl d_M_bundle_48 ?_
      refine lv_aload_n hx hb d_M_bundle_51 rfl (lv_at hl 0 rfl) ?_
      refine va_get (D := D) (ci := 3) (v := .ref (A 1)) (C := R_M) (T := T_M) (N := 13) hx hb hts in_M hown hK hP 0 rfl rfl 1 (by decide) (hw _ ww_535) (fun _ h9 => h9) rfl d_M_bundle_52 ?_
      refine lv_iload_n hx hb d_M_bundle_55 rfl (lv_at hl 1 rfl) ?_
      by_cases h9 : a0 < 0 ∨ 6 ≤ Int32.toNatClampNeg a0
      · have h0 := (if_pos h9).symm.trans hF; cases h0
      have hF := (if_neg h9).symm.trans hF
      refine va_lald hx hb hK hP 1 0 rfl rfl h9 d_M_bundle_56 ?_
      obtain ⟨r10, e_r10, hF⟩ := Option.bind_eq_some_iff.mp hF
      refine vp_callSl (va_runS (As := [.long (j5.2.1 (Int32.toNatClampNeg a0))]) (rest := [.int j5.2.2.2.2.1, .ref (A 3)]) ⟨hx, hb, hml, hown, hts⟩ (k_M_xOf l (j5.2.1 (Int32.toNatClampNeg a0)) r10 e_r10) (va_cwS 1 hts (ga_S ww_597 ww_598 ww_4 ww_599) rfl rfl rfl (by decide +kernel) ⟨by decide, by decide⟩) (pcs_pre hN) rfl rfl hl.1 rfl (lv_room (Nat.le_of_ble_eq_true rfl)) d_M_bundle_57 ⟨Nat.zero_le _, Nat.zero_le _⟩).run (fun z9 hz9 => ?_)
      obtain rfl : r10 = z9 := hz9.symm
      by_cases h11 : j5.2.2.2.2.1 < 0 ∨ 8 ≤ Int32.toNatClampNeg j5.2.2.2.2.1
      · have h0 := (if_pos h11).symm.trans hF; cases h0
      have hF := (if_neg h11).symm.trans hF
      refine va_last hx hb hK hP hD hS 3 2 rfl rfl h11 d_M_bundle_60 (fun H locs hP hD hS => ?_)
      have hP : va_P D vwC (wM A cc (j4, j5.2.1, j5.2.2.1, j5.2.2.2.1, j5.2.2.2.2.1, (vp_updL j5.2.2.2.2.2.1 (Int32.toNatClampNeg j5.2.2.2.2.1) r10), j5.2.2.2.2.2.2.1, j5.2.2.2.2.2.2.2.1, j5.2.2.2.2.2.2.2.2.1, j5.2.2.2.2.2.2.2.2.2.1, j5.2.2.2.2.2.2.2.2.2.2.1, j5.2.2.2.2.2.2.2.2.2.2.2.1, j5.2.2.2.2.2.2.2.2.2.2.2.2)) H := hP
      have hD : va_D AA (wM A cc (j4, j5.2.1, j5.2.2.1, j5.2.2.2.1, j5.2.2.2.2.1, (vp_updL j5.2.2.2.2.2.1 (Int32.toNatClampNeg j5.2.2.2.2.1) r10), j5.2.2.2.2.2.2.1, j5.2.2.2.2.2.2.2.1, j5.2.2.2.2.2.2.2.2.1, j5.2.2.2.2.2.2.2.2.2.1, j5.2.2.2.2.2.2.2.2.2.2.1, j5.2.2.2.2.2.2.2.2.2.2.2.1, j5.2.2.2.2.2.2.2.2.2.2.2.2)) := hD
      refine lv_aload_n hx hb d_M_bundle_61 rfl (lv_at hl 0 rfl) ?_
      refine va_get (D := D) (ci := 3) (v := .ref (A 4)) (C := R_M) (T := T_M) (N := 13) hx hb hts in_M hown hK hP 0 rfl rfl 6 (by decide) (hw _ ww_540) (fun _ h9 => h9) rfl d_M_bundle_62 ?_
      refine lv_aload_n hx hb d_M_bundle_65 rfl (lv_at hl 0 rfl) ?_
      refine va_get (D := D) (ci := 3) (v := .int j5.2.2.2.2.1) (C := R_M) (T := T_M) (N := 13) hx hb hts in_M hown hK hP 0 rfl rfl 4 (by decide) (hw _ ww_538) (fun _ h9 => h9) rfl d_M_bundle_66 ?_
      refine lv_lload_n hx hb d_M_bundle_69 rfl (lv_at hl 2 rfl) ?_
      by_cases h12 : j5.2.2.2.2.1 < 0 ∨ 8 ≤ Int32.toNatClampNeg j5.2.2.2.2.1
      · have h0 := (if_pos h12).symm.trans hF; cases h0
      have hF := (if_neg h12).symm.trans hF
      refine va_last hx hb hK hP hD hS 4 3 rfl rfl h12 d_M_bundle_70 (fun H locs hP hD hS => ?_)
      have hP : va_P D vwC (wM A cc (j4, j5.2.1, j5.2.2.1, j5.2.2.2.1, j5.2.2.2.2.1, (vp_updL j5.2.2.2.2.2.1 (Int32.toNatClampNeg j5.2.2.2.2.1) r10), (vp_updL j5.2.2.2.2.2.2.1 (Int32.toNatClampNeg j5.2.2.2.2.1) a1), j5.2.2.2.2.2.2.2.1, j5.2.2.2.2.2.2.2.2.1, j5.2.2.2.2.2.2.2.2.2.1, j5.2.2.2.2.2.2.2.2.2.2.1, j5.2.2.2.2.2.2.2.2.2.2.2.1, j5.2.2.2.2.2.2.2.2.2.2.2.2)) H := hP
      have hD : va_D AA (wM A cc (j4, j5.2.1, j5.2.2.1, j5.2.2.2.1, j5.2.2.2.2.1, (vp_updL j5.2.2.2.2.2.1 (Int32.toNatClampNeg j5.2.2.2.2.1) r10), (vp_updL j5.2.2.2.2.2.2.1 (Int32.toNatClampNeg j5.2.2.2.2.1) a1), j5.2.2.2.2.2.2.2.1, j5.2.2.2.2.2.2.2.2.1, j5.2.2.2.2.2.2.2.2.2.1, j5.2.2.2.2.2.2.2.2.2.2.1, j5.2.2.2.2.2.2.2.2.2.2.2.1, j5.2.2.2.2.2.2.2.2.2.2.2.2)) := hD
      refine lv_aload_n hx hb d_M_bundle_71 rfl (lv_at hl 0 rfl) ?_
      refine va_get (D := D) (ci := 3) (v := .ref (A 5)) (C := R_M) (T := T_M) (N := 13) hx hb hts in_M hown hK hP 0 rfl rfl 7 (by decide) (hw _ ww_541) (fun _ h9 => h9) rfl d_M_bundle_72 ?_
      refine lv_aload_n hx hb d_M_bundle_75 rfl (lv_at hl 0 rfl) ?_
      refine va_get (D := D) (ci := 3) (v := .int j5.2.2.2.2.1) (C := R_M) (T := T_M) (N := 13) hx hb hts in_M hown hK hP 0 rfl rfl 4 (by decide) (hw _ ww_538) (fun _ h9 => h9) rfl d_M_bundle_76 ?_
      refine lv_iload hx hb d_M_bundle_79 (lv_at hl 3 rfl) ?_
      by_cases h13 : j5.2.2.2.2.1 < 0 ∨ 8 ≤ Int32.toNatClampNeg j5.2.2.2.2.1
      · have h0 := (if_pos h13).symm.trans hF; cases h0
      have hF := (if_neg h13).symm.trans hF
      refine va_iast hx hb hK hP hD hS 5 4 rfl rfl h13 d_M_bundle_81 (fun H locs hP hD hS => ?_)
      have hP : va_P D vwC (wM A cc (j4, j5.2.1, j5.2.2.1, j5.2.2.2.1, j5.2.2.2.2.1, (vp_updL j5.2.2.2.2.2.1 (Int32.toNatClampNeg j5.2.2.2.2.1) r10), (vp_updL j5.2.2.2.2.2.2.1 (Int32.toNatClampNeg j5.2.2.2.2.1) a1), (upd j5.2.2.2.2.2.2.2.1 (Int32.toNatClampNeg j5.2.2.2.2.1) a2), j5.2.2.2.2.2.2.2.2.1, j5.2.2.2.2.2.2.2.2.2.1, j5.2.2.2.2.2.2.2.2.2.2.1, j5.2.2.2.2.2.2.2.2.2.2.2.1, j5.2.2.2.2.2.2.2.2.2.2.2.2)) H := hP
      have hD : va_D AA (wM A cc (j4, j5.2.1, j5.2.2.1, j5.2.2.2.1, j5.2.2.2.2.1, (vp_updL j5.2.2.2.2.2.1 (Int32.toNatClampNeg j5.2.2.2.2.1) r10), (vp_updL j5.2.2.2.2.2.2.1 (Int32.toNatClampNeg j5.2.2.2.2.1) a1), (upd j5.2.2.2.2.2.2.2.1 (Int32.toNatClampNeg j5.2.2.2.2.1) a2), j5.2.2.2.2.2.2.2.2.1, j5.2.2.2.2.2.2.2.2.2.1, j5.2.2.2.2.2.2.2.2.2.2.1, j5.2.2.2.2.2.2.2.2.2.2.2.1, j5.2.2.2.2.2.2.2.2.2.2.2.2)) := hD
      refine lv_aload_n hx hb d_M_bundle_82 rfl (lv_at hl 0 rfl) ?_
      refine va_get (D := D) (ci := 3) (v := .ref (A 6)) (C := R_M) (T := T_M) (N := 13) hx hb hts in_M hown hK hP 0 rfl rfl 8 (by decide) (hw _ ww_542) (fun _ h9 => h9) rfl d_M_bundle_83 ?_
      refine lv_aload_n hx hb d_M_bundle_86 rfl (lv_at hl 0 rfl) ?_
      refine va_get (D := D) (ci := 3) (v := .int j5.2.2.2.2.1) (C := R_M) (T := T_M) (N := 13) hx hb hts in_M hown hK hP 0 rfl rfl 4 (by decide) (hw _ ww_538) (fun _ h9 => h9) rfl d_M_bundle_87 ?_
      refine lv_iload hx hb d_M_bundle_90 (lv_at hl 4 rfl) ?_
      by_cases h14 : j5.2.2.2.2.1 < 0 ∨ 8 ≤ Int32.toNatClampNeg j5.2.2.2.2.1
      · have h0 := (if_pos h14).symm.trans hF; cases h0
      have hF := (if_neg h14).symm.trans hF
      refine va_iast hx hb hK hP hD hS 6 5 rfl rfl h14 d_M_bundle_92 (fun H locs hP hD hS => ?_)
      have hP : va_P D vwC (wM A cc (j4, j5.2.1, j5.2.2.1, j5.2.2.2.1, j5.2.2.2.2.1, (vp_updL j5.2.2.2.2.2.1 (Int32.toNatClampNeg j5.2.2.2.2.1) r10), (vp_updL j5.2.2.2.2.2.2.1 (Int32.toNatClampNeg j5.2.2.2.2.1) a1), (upd j5.2.2.2.2.2.2.2.1 (Int32.toNatClampNeg j5.2.2.2.2.1) a2), (upd j5.2.2.2.2.2.2.2.2.1 (Int32.toNatClampNeg j5.2.2.2.2.1) a3), j5.2.2.2.2.2.2.2.2.2.1, j5.2.2.2.2.2.2.2.2.2.2.1, j5.2.2.2.2.2.2.2.2.2.2.2.1, j5.2.2.2.2.2.2.2.2.2.2.2.2)) H := hP
      have hD : va_D AA (wM A cc (j4, j5.2.1, j5.2.2.1, j5.2.2.2.1, j5.2.2.2.2.1, (vp_updL j5.2.2.2.2.2.1 (Int32.toNatClampNeg j5.2.2.2.2.1) r10), (vp_updL j5.2.2.2.2.2.2.1 (Int32.toNatClampNeg j5.2.2.2.2.1) a1), (upd j5.2.2.2.2.2.2.2.1 (Int32.toNatClampNeg j5.2.2.2.2.1) a2), (upd j5.2.2.2.2.2.2.2.2.1 (Int32.toNatClampNeg j5.2.2.2.2.1) a3), j5.2.2.2.2.2.2.2.2.2.1, j5.2.2.2.2.2.2.2.2.2.2.1, j5.2.2.2.2.2.2.2.2.2.2.2.1, j5.2.2.2.2.2.2.2.2.2.2.2.2)) := hD
      refine lv_aload_n hx hb d_M_bundle_93 rfl (lv_at hl 0 rfl) ?_
      refine lv_dup hx hb d_M_bundle_94 rfl ?_
      refine va_get (D := D) (ci := 3) (v := .int j5.2.2.2.2.1) (C := R_M) (T := T_M) (N := 13) hx hb hts in_M hown hK hP 0 rfl rfl 4 (by decide) (hw _ ww_538) (fun _ h9 => h9) rfl d_M_bundle_95 ?_
      refine lv_iconst (v := 1) hx hb d_M_bundle_98 (by decide) ?_
      refine lv_iadd hx hb d_M_bundle_99 ?_
      refine va_put (D := D) (ci := 3) (v := .int (j5.2.2.2.2.1 + 1)) (ty := .int) (C := R_M) (T := T_M) (N := 13) hx hb hts in_M ft_M ft_M_ok fn_M hown hK hP hD hS 0 rfl rfl 4 (by decide) (hw _ ww_538) (fun _ h9 => h9) rfl (by decide +kernel) rfl rfl (Nat.le_of_ble_eq_true rfl) d_M_bundle_100 (fun H locs hP hD hS => ?_)
      have hP : va_P D vwC (wM A cc (j4, j5.2.1, j5.2.2.1, j5.2.2.2.1, (j5.2.2.2.2.1 + 1), (vp_updL j5.2.2.2.2.2.1 (Int32.toNatClampNeg j5.2.2.2.2.1) r10), (vp_updL j5.2.2.2.2.2.2.1 (Int32.toNatClampNeg j5.2.2.2.2.1) a1), (upd j5.2.2.2.2.2.2.2.1 (Int32.toNatClampNeg j5.2.2.2.2.1) a2), (upd j5.2.2.2.2.2.2.2.2.1 (Int32.toNatClampNeg j5.2.2.2.2.1) a3), j5.2.2.2.2.2.2.2.2.2.1, j5.2.2.2.2.2.2.2.2.2.2.1, j5.2.2.2.2.2.2.2.2.2.2.2.1, j5.2.2.2.2.2.2.2.2.2.2.2.2)) H := hP
      have hD : va_D AA (wM A cc (j4, j5.2.1, j5.2.2.1, j5.2.2.2.1, (j5.2.2.2.2.1 + 1), (vp_updL j5.2.2.2.2.2.1 (Int32.toNatClampNeg j5.2.2.2.2.1) r10), (vp_updL j5.2.2.2.2.2.2.1 (Int32.toNatClampNeg j5.2.2.2.2.1) a1), (upd j5.2.2.2.2.2.2.2.1 (Int32.toNatClampNeg j5.2.2.2.2.1) a2), (upd j5.2.2.2.2.2.2.2.2.1 (Int32.toNatClampNeg j5.2.2.2.2.1) a3), j5.2.2.2.2.2.2.2.2.2.1, j5.2.2.2.2.2.2.2.2.2.2.1, j5.2.2.2.2.2.2.2.2.2.2.2.1, j5.2.2.2.2.2.2.2.2.2.2.2.2)) := hD
      refine lv_aload_n hx hb d_M_bundle_103 rfl (lv_at hl 0 rfl) ?_
      refine va_get (D := D) (ci := 3) (v := .int (j5.2.2.2.2.1 + 1)) (C := R_M) (T := T_M) (N := 13) hx hb hts in_M hown hK hP 0 rfl rfl 4 (by decide) (hw _ ww_538) (fun _ h9 => h9) rfl d_M_bundle_104 ?_
      obtain rfl := Option.some.inj hF
      exact W.iret hx hb hr (fun t ht hW => ⟨⟨_, _, rfl, rfl, bw_end hP hK hD ht hW⟩, hS.F ht⟩) hS.2.2 d_M_bundle_107
    · have hF := (if_neg h9).symm.trans hF
      refine lv_iconst (v := 0) hx hb d_M_bundle_41 (by decide) ?_
      obtain rfl := Option.some.inj hF
      exact W.iret hx hb hr (fun t ht hW => ⟨⟨_, _, rfl, rfl, bw_end hP hK hD ht hW⟩, hS.F ht⟩) hS.2.2 d_M_bundle_42
  clear hF
  have hF := q7
  refine lv_if_eq hx hb d_M_bundle_6 (tgt := 17) (by decide) (fun h9 => ?_) (fun h9 => ?_)
  · have hF := (if_pos h9).symm.trans hF
    refine lv_aload_n hx hb d_M_bundle_17 rfl (lv_at hl 0 rfl) ?_
    refine va_get (D := D) (ci := 3) (v := .int g1.2.2.2.2.1) (C := R_M) (T := T_M) (N := 13) hx hb hts in_M hown hK hP 0 rfl rfl 4 (by decide) (hw _ ww_538) (fun _ h9 => h9) rfl d_M_bundle_18 ?_
    refine lv_bipush (v := 8) hx hb d_M_bundle_21 (by decide) ?_
    refine lv_icmp_ne hx hb d_M_bundle_23 (tgt := 30) (by decide) (fun h9 => ?_) (fun h9 => ?_)
    · have hF := (if_neg h9).symm.trans hF
      refine lv_iconst (v := 0) hx hb d_M_bundle_30 (by decide) ?_
      cases Option.some.inj hF
      exact k6 _ _ ls hP hD hS (lv_sub hl [0, 1, 2, 3, 4] rfl)
    · have hF := (if_pos h9).symm.trans hF
      refine lv_iconst (v := 3) hx hb d_M_bundle_26 (by decide) ?_
      refine lv_goto hx hb d_M_bundle_27 (tgt := 31) (by decide) ?_
      cases Option.some.inj hF
      exact k6 _ _ ls hP hD hS (lv_sub hl [0, 1, 2, 3, 4] rfl)
  · have hF := (if_neg h9).symm.trans hF
    refine lv_aload_n hx hb d_M_bundle_9 rfl (lv_at hl 0 rfl) ?_
    refine lv_iload_n hx hb d_M_bundle_10 rfl (lv_at hl 1 rfl) ?_
    obtain ⟨⟨r16, g15⟩, e_g15, hF⟩ := Option.bind_eq_some_iff.mp hF
    have hFc := va_free (wc := wM A cc g1) hD hS hA [0, 1, 2, 3, 4, 5, 6, 7, 8] rfl
    refine va_calli (va_runV (As := [.int a0]) (rest := [.ref (A 0)]) ⟨hx, hb, hml, hown, hts⟩ (k_M_noPoint l D A cc g1 a0 _ (r16, g15) e_g15) (cwV 1 hts (ga_V ww_692 ww_694 wp_10 ww_4 ww_695) rfl rfl rfl (by decide +kernel) ⟨by decide, by decide⟩) (pw_pre (q0 := 0) (ci := 3) hP hK hD hN rfl rfl) rfl rfl hl.1 rfl (lv_room (Nat.le_of_ble_eq_true rfl)) d_M_bundle_11 ⟨Nat.zero_le _, Nat.zero_le _⟩) hS (fun q _ h => hFc q h) hFc (fun r9 u9 t H locs ht hvm hp hB hz1 hk1 hS => ?_)
    obtain ⟨rfl, rfl⟩ := Prod.mk.inj hp.symm
    obtain ⟨hP, hD⟩ := bw_back hB ht hFc
    refine lv_goto hx hb d_M_bundle_14 (tgt := 31) (by decide) ?_
    cases Option.some.inj hF
    exact k6 _ _ ls hP hD hS (lv_sub hl [0, 1, 2, 3, 4] rfl)
def f_M_right_20 (a0 : Int64) : Nat → sM → Int32 → Int64 → Int64 → Int32 → Option (sM × Int32 × Int64 × Int64 × Int32)
  | 0, _, _, _, _, _ => none
  | n + 1, g7, u3, u4, u5, u6 => if g7.2.2.2.2.1 ≤ u3 then (some (g7, u3, u4, u5, u6)) else (if u6 = 0 then (some (g7, u3, u4, u5, u6)) else (Option.bind (if u3 = 0 then (some (1) : Option (Int64)) else (Option.bind (f_M_h a0 (Int32.toInt64 u3)) (fun r49 => some (1 + (((Int64.toUInt64 r49 >>> ((Int32.toInt64 34).toUInt64 &&& Int64.toUInt64 63)).toInt64) - ((Int64.toUInt64 r49 >>> ((Int32.toInt64 34).toUInt64 &&& Int64.toUInt64 63)).toInt64) / 1073729076 * 1073729076))))) (fun j17 => if u3 < 0 ∨ 8 ≤ Int32.toNatClampNeg u3 then none else (Option.bind (f_M_lift (Int32.toInt64 (g7.2.2.2.2.2.2.2.1 (Int32.toNatClampNeg u3))) 0) (fun r22 => Option.bind (if (lg_cmp r22 (-1)) = 0 then (some (0) : Option (Int32)) else (if u3 < 0 ∨ 8 ≤ Int32.toNatClampNeg u3 then none else (Option.bind (f_M_isScalar (g7.2.2.2.2.2.2.2.2.1 (Int32.toNatClampNeg u3))) (fun r48 => if r48 = 0 then (some (0)) else (some (1)))))) (fun j23 => Option.bind (if j23 = 0 then (some (u4, u5) : Option (Int64 × Int64)) else (if u3 < 0 ∨ 8 ≤ Int32.toNatClampNeg u3 then none else (if u3 < 0 ∨ 8 ≤ Int32.toNatClampNeg u3 then none else (if u3 < 0 ∨ 8 ≤ Int32.toNatClampNeg u3 then none else (Option.bind (f_M_challenge (Int32.toInt64 (g7.2.2.2.2.2.2.2.1 (Int32.toNatClampNeg u3))) (g7.2.2.2.2.2.1 (Int32.toNatClampNeg u3)) (g7.2.2.2.2.2.2.1 (Int32.toNatClampNeg u3))) (fun r36 => if u3 < 0 ∨ 8 ≤ Int32.toNatClampNeg u3 then none else (Option.bind (f_M_g ) (fun r38 => Option.bind (f_M_times ((j17 * (Int32.toInt64 (g7.2.2.2.2.2.2.2.2.1 (Int32.toNatClampNeg u3)))) - (j17 * (Int32.toInt64 (g7.2.2.2.2.2.2.2.2.1 (Int32.toNatClampNeg u3)))) / 1073729077 * 1073729077) r38) (fun r39 => Option.bind (f_M_sum u5 r39) (fun r40 => Option.bind (f_M_times j17 r22) (fun r41 => if u3 < 0 ∨ 8 ≤ Int32.toNatClampNeg u3 then none else (Option.bind (f_M_lift (g7.2.2.2.2.2.1 (Int32.toNatClampNeg u3)) 0) (fun r43 => Option.bind (f_M_times ((j17 * r36) - (j17 * r36) / 1073729077 * 1073729077) r43) (fun r44 => Option.bind (f_M_sum r41 r44) (fun r45 => Option.bind (f_M_sum u4 r45) (fun r46 => some (r46, r40))))))))))))))))) (fun t31 => match t31 with | (j27, j28) => (Option.bind (some (u3 + 1)) (fun v32 => f_M_right_20 a0 n g7 v32 j27 j28 j23)))))))))
def f_M_right (g0 : sM) (a0 : Int64) : Option (Int32 × sM) := Option.bind (some ((-1))) (fun v1 => Option.bind (some ((-1))) (fun v2 => Option.bind (f_M_right_20 a0 64 (0, g0.2.1, g0.2.2.1, g0.2.2.2.1, g0.2.2.2.2.1, g0.2.2.2.2.2.1, g0.2.2.2.2.2.2.1, g0.2.2.2.2.2.2.2.1, g0.2.2.2.2.2.2.2.2.1, g0.2.2.2.2.2.2.2.2.2.1, g0.2.2.2.2.2.2.2.2.2.2.1, g0.2.2.2.2.2.2.2.2.2.2.2.1, g0.2.2.2.2.2.2.2.2.2.2.2.2) 0 v2 v1 1) (fun t51 => match t51 with | (o9, o10, o11, o12, o13) => (Option.bind (if o13 = 0 then (some (0) : Option (Int32)) else (if (lg_cmp o12 o11) = 0 then (some (1)) else (some (0)))) (fun j52 => if j52 = 0 ∨ j52 = 1 then some (j52, (o9.1, o9.2.1, o9.2.2.1, o9.2.2.2.1, 0, o9.2.2.2.2.2.1, o9.2.2.2.2.2.2.1, o9.2.2.2.2.2.2.2.1, o9.2.2.2.2.2.2.2.2.1, o9.2.2.2.2.2.2.2.2.2.1, o9.2.2.2.2.2.2.2.2.2.2.1, o9.2.2.2.2.2.2.2.2.2.2.2.1, o9.2.2.2.2.2.2.2.2.2.2.2.2)) else none)))))
abbrev rm_M_right : Room := { frames := 5, cells := 0, slots := 0, locals := 147 }
set_option maxHeartbeats 4000000 in
set_option maxRecDepth 100000 in
theorem k_M_right (l : Launch) (D : va_G) (A : Nat → Nat) (cc : Nat → ClassId) (g0 : sM) (a0 : Int64) (sz : Nat) (res : (Int32 × sM)) (hF : f_M_right g0 a0 = some res) : Met l y_M_right (Cond.code y_M_right b_M_right 15 (some .boolean) :: wa) rm_M_right (pw D (wM A cc g0) (kM cc) [.ref (A 0), .long a0] sz) (va_Qi (fun r u => (r, u) = res) (bw D (wM A cc) (kM cc) (va_A (wM A cc g0) sz)) (va_A (wM A cc g0) sz)) 0 0 (va_A (wM A cc g0) sz) := by
  refine Met.ofW (cc := b_M_right) (maxL := 15) (ret := (some .boolean)) (by decide) rfl ?_
  intro p e s m args below meth c s₁ B hml hv
  obtain ⟨rfl, hsz, hP, hK, hD0, hN⟩ := hv
  have hx := B.exec
  have hb := B.bytes
  have hr := B.returns
  have hts := atoms_spec (ws := Cond.code y_M_right b_M_right 15 (some .boolean) :: wa) B.pre
  have hw : ∀ w ∈ wa, w.before _ s = true := fun w h => hts w (List.mem_cons_of_mem _ h)
  have hown : s.vm.findClass R_M = some m.cls := findClass_of_methodNamed B.named
  have hlocks := B.notSynchronized
  subst hsz
  have hD := hD0.self (sz := s.heap.size)
  generalize hAe : va_A (wM A cc g0) s.heap.size = AA at hD ⊢
  have hA : ∀ q : Nat, s.heap.size ≤ q → AA q := fun q h => by rw [← hAe]; exact Or.inr h
  have hS : va_S AA s.heap s.heap [] := va_S.rf
  have hl := lv_entry ([.ref (A 0), .long a0]) (n := 15) (Nat.le_of_ble_eq_true rfl)
  rw [lg_entry_eq]
  generalize (lg_sl ([.ref (A 0), .long a0]) ++ List.replicate (15 - (lg_sl ([.ref (A 0), .long a0])).length) Slot.unset).toArray = ls at hl ⊢
  have hl : lv_has ls 15 [(0, .ref (A 0)), (1, .long a0)] := hl
  unfold f_M_right at hF
  refine lv_aload_n hx hb d_M_right_0 rfl (lv_at hl 0 rfl) ?_
  refine lv_iconst (v := 0) hx hb d_M_right_1 (by decide) ?_
  refine va_put (D := D) (ci := 3) (v := .int 0) (ty := .int) (C := R_M) (T := T_M) (N := 13) hx hb hts in_M ft_M ft_M_ok fn_M hown hK hP hD hS 0 rfl rfl 0 (by decide) (hw _ ww_534) (fun _ h9 => h9) rfl (by decide +kernel) rfl rfl (Nat.le_of_ble_eq_true rfl) d_M_right_2 (fun H locs hP hD hS => ?_)
  have hP : va_P D vwC (wM A cc (0, g0.2.1, g0.2.2.1, g0.2.2.2.1, g0.2.2.2.2.1, g0.2.2.2.2.2.1, g0.2.2.2.2.2.2.1, g0.2.2.2.2.2.2.2.1, g0.2.2.2.2.2.2.2.2.1, g0.2.2.2.2.2.2.2.2.2.1, g0.2.2.2.2.2.2.2.2.2.2.1, g0.2.2.2.2.2.2.2.2.2.2.2.1, g0.2.2.2.2.2.2.2.2.2.2.2.2)) H := hP
  have hD : va_D AA (wM A cc (0, g0.2.1, g0.2.2.1, g0.2.2.2.1, g0.2.2.2.2.1, g0.2.2.2.2.2.1, g0.2.2.2.2.2.2.1, g0.2.2.2.2.2.2.2.1, g0.2.2.2.2.2.2.2.2.1, g0.2.2.2.2.2.2.2.2.2.1, g0.2.2.2.2.2.2.2.2.2.2.1, g0.2.2.2.2.2.2.2.2.2.2.2.1, g0.2.2.2.2.2.2.2.2.2.2.2.2)) := hD
  refine lv_iconst (v := 1) hx hb d_M_right_5 (by decide) ?_
  refine lv_istore_n hx hb d_M_right_6 rfl hl (by decide) (lv' := [(3, .int 1), (0, .ref (A 0)), (1, .long a0)]) rfl (fun ls hl => ?_)
  refine lv_ldc2 (v := (-1)) hx hb hown (hw _ ww_533) d_M_right_7 ?_
  obtain ⟨v1, e_v1, hF⟩ := Option.bind_eq_some_iff.mp hF
  refine nm_l (Option.some.inj e_v1) ?_
  refine lv_lstore hx hb d_M_right_10 hl (by decide) (lv' := [(4, .long v1), (3, .int 1), (0, .ref (A 0)), (1, .long a0)]) rfl (fun ls hl => ?_)
  refine lv_ldc2 (v := (-1)) hx hb hown (hw _ ww_533) d_M_right_12 ?_
  obtain ⟨v2, e_v2, hF⟩ := Option.bind_eq_some_iff.mp hF
  refine nm_l (Option.some.inj e_v2) ?_
  refine lv_lstore hx hb d_M_right_15 hl (by decide) (lv' := [(6, .long v2), (4, .long v1), (3, .int 1), (0, .ref (A 0)), (1, .long a0)]) rfl (fun ls hl => ?_)
  refine lv_iconst (v := 0) hx hb d_M_right_17 (by decide) ?_
  refine lv_istore hx hb d_M_right_18 hl (by decide) (lv' := [(8, .int 0), (6, .long v2), (4, .long v1), (3, .int 1), (0, .ref (A 0)), (1, .long a0)]) rfl (fun ls hl => ?_)
  obtain ⟨⟨o9, o10, o11, o12, o13⟩, q50, hF⟩ := Option.bind_eq_some_iff.mp hF
  have k14 : ∀ (H : Heap) (locs : List Loc) (ls : Array Slot), va_P D vwC (wM A cc o9) H → va_D AA (wM A cc o9) → va_S AA s.heap H locs → lv_has ls 15 [(8, .int o10), (6, .long o11), (4, .long o12), (3, .int o13), (0, .ref (A 0)), (1, .long a0)] → W p l e rm_M_right s m ([Value.ref (A 0), Value.long a0] : List Value).toArray below meth c H locs 0 0 (MQ below (va_Qi (fun r u => (r, u) = res) (bw D (wM A cc) (kM cc) AA) AA) ([Value.ref (A 0), Value.long a0] : List Value).toArray s 0 0 AA) (F0 m 207 ls []) := by
    intro H locs ls hP hD hS hl
    refine lv_aload_n hx hb d_M_right_207 rfl (lv_at hl 4 rfl) ?_
    refine lv_iconst (v := 0) hx hb d_M_right_208 (by decide) ?_
    refine va_put (D := D) (ci := 3) (v := .int 0) (ty := .int) (C := R_M) (T := T_M) (N := 13) hx hb hts in_M ft_M ft_M_ok fn_M hown hK hP hD hS 0 rfl rfl 4 (by decide) (hw _ ww_538) (fun _ h9 => h9) rfl (by decide +kernel) rfl rfl (Nat.le_of_ble_eq_true rfl) d_M_right_209 (fun H locs hP hD hS => ?_)
    have hP : va_P D vwC (wM A cc (o9.1, o9.2.1, o9.2.2.1, o9.2.2.2.1, 0, o9.2.2.2.2.2.1, o9.2.2.2.2.2.2.1, o9.2.2.2.2.2.2.2.1, o9.2.2.2.2.2.2.2.2.1, o9.2.2.2.2.2.2.2.2.2.1, o9.2.2.2.2.2.2.2.2.2.2.1, o9.2.2.2.2.2.2.2.2.2.2.2.1, o9.2.2.2.2.2.2.2.2.2.2.2.2)) H := hP
    have hD : va_D AA (wM A cc (o9.1, o9.2.1, o9.2.2.1, o9.2.2.2.1, 0, o9.2.2.2.2.2.1, o9.2.2.2.2.2.2.1, o9.2.2.2.2.2.2.2.1, o9.2.2.2.2.2.2.2.2.1, o9.2.2.2.2.2.2.2.2.2.1, o9.2.2.2.2.2.2.2.2.2.2.1, o9.2.2.2.2.2.2.2.2.2.2.2.1, o9.2.2.2.2.2.2.2.2.2.2.2.2)) := hD
    refine lv_iload_n hx hb d_M_right_212 rfl (lv_at hl 3 rfl) ?_
    obtain ⟨j52, q54, hF⟩ := Option.bind_eq_some_iff.mp hF
    have k53 : ∀ (H : Heap) (locs : List Loc) (ls : Array Slot), va_P D vwC (wM A cc (o9.1, o9.2.1, o9.2.2.1, o9.2.2.2.1, 0, o9.2.2.2.2.2.1, o9.2.2.2.2.2.2.1, o9.2.2.2.2.2.2.2.1, o9.2.2.2.2.2.2.2.2.1, o9.2.2.2.2.2.2.2.2.2.1, o9.2.2.2.2.2.2.2.2.2.2.1, o9.2.2.2.2.2.2.2.2.2.2.2.1, o9.2.2.2.2.2.2.2.2.2.2.2.2)) H → va_D AA (wM A cc (o9.1, o9.2.1, o9.2.2.1, o9.2.2.2.1, 0, o9.2.2.2.2.2.1, o9.2.2.2.2.2.2.1, o9.2.2.2.2.2.2.2.1, o9.2.2.2.2.2.2.2.2.1, o9.2.2.2.2.2.2.2.2.2.1, o9.2.2.2.2.2.2.2.2.2.2.1, o9.2.2.2.2.2.2.2.2.2.2.2.1, o9.2.2.2.2.2.2.2.2.2.2.2.2)) → va_S AA s.heap H locs → lv_has ls 15 [] → W p l e rm_M_right s m ([Value.ref (A 0), Value.long a0] : List Value).toArray below meth c H locs 0 0 (MQ below (va_Qi (fun r u => (r, u) = res) (bw D (wM A cc) (kM cc) AA) AA) ([Value.ref (A 0), Value.long a0] : List Value).toArray s 0 0 AA) (F0 m 229 ls [.int j52]) := by
      intro H locs ls hP hD hS hl
      by_cases h56 : ¬ (j52 = 0 ∨ j52 = 1)
      · have h0 := (if_neg h56).symm.trans hF; cases h0
      have h56 := Classical.not_not.mp h56
      have hF := (if_pos h56).symm.trans hF
      obtain rfl := Option.some.inj hF
      exact W.zret hx hb hr (nz_b h56) (fun t ht hW => ⟨⟨_, _, rfl, rfl, bw_end hP hK hD ht hW⟩, hS.F ht⟩) hS.2.2 d_M_right_229
    clear hF
    have hF := q54
    refine lv_if_eq hx hb d_M_right_213 (tgt := 228) (by decide) (fun h9 => ?_) (fun h9 => ?_)
    · have hF := (if_pos h9).symm.trans hF
      refine lv_iconst (v := 0) hx hb d_M_right_228 (by decide) ?_
      obtain rfl := Option.some.inj hF
      exact k53 _ _ ls hP hD hS (lv_sub hl [] rfl)
    · have hF := (if_neg h9).symm.trans hF
      refine lv_lload hx hb d_M_right_216 (lv_at hl 2 rfl) ?_
      refine lv_lload hx hb d_M_right_218 (lv_at hl 1 rfl) ?_
      refine W.lcmp hx hb d_M_right_220 ?_
      refine lv_if_ne hx hb d_M_right_221 (tgt := 228) (by decide) (fun h9 => ?_) (fun h9 => ?_)
      · have hF := (if_neg h9).symm.trans hF
        refine lv_iconst (v := 0) hx hb d_M_right_228 (by decide) ?_
        obtain rfl := Option.some.inj hF
        exact k53 _ _ ls hP hD hS (lv_sub hl [] rfl)
      · have hF := (if_pos h9).symm.trans hF
        refine lv_iconst (v := 1) hx hb d_M_right_224 (by decide) ?_
        refine lv_goto hx hb d_M_right_225 (tgt := 229) (by decide) ?_
        obtain rfl := Option.some.inj hF
        exact k53 _ _ ls hP hD hS (lv_sub hl [] rfl)
  clear hF
  have k8 : ∀ (n : Nat) (g7 : sM) (u3 : Int32) (u4 : Int64) (u5 : Int64) (u6 : Int32) (H : Heap) (locs : List Loc) (ls : Array Slot), va_P D vwC (wM A cc g7) H → va_D AA (wM A cc g7) → va_S AA s.heap H locs → lv_has ls 15 [(8, .int u3), (6, .long u4), (4, .long u5), (3, .int u6), (0, .ref (A 0)), (1, .long a0)] → f_M_right_20 a0 n g7 u3 u4 u5 u6 = some (o9, o10, o11, o12, o13) → W p l e rm_M_right s m ([Value.ref (A 0), Value.long a0] : List Value).toArray below meth c H locs 0 0 (MQ below (va_Qi (fun r u => (r, u) = res) (bw D (wM A cc) (kM cc) AA) AA) ([Value.ref (A 0), Value.long a0] : List Value).toArray s 0 0 AA) (F0 m 20 ls []) := by
    intro n
    induction n with
    | zero => intro g7 u3 u4 u5 u6 H locs ls hP hD hS hl hF; cases hF
    | succ n ih =>
      intro g7 u3 u4 u5 u6 H locs ls hP hD hS hl hF
      rw [f_M_right_20] at hF
      refine lv_iload hx hb d_M_right_20 (lv_at hl 0 rfl) ?_
      refine lv_aload_n hx hb d_M_right_22 rfl (lv_at hl 4 rfl) ?_
      refine va_get (D := D) (ci := 3) (v := .int g7.2.2.2.2.1) (C := R_M) (T := T_M) (N := 13) hx hb hts in_M hown hK hP 0 rfl rfl 4 (by decide) (hw _ ww_538) (fun _ h9 => h9) rfl d_M_right_23 ?_
      refine lv_icmp_ge hx hb d_M_right_26 (tgt := 207) (by decide) (fun h9 => ?_) (fun h9 => ?_)
      · have hF := (if_pos h9).symm.trans hF
        cases Option.some.inj hF
        exact k14 _ _ ls hP hD hS (lv_sub hl [0, 1, 2, 3, 4, 5] rfl)
      · have hF := (if_neg h9).symm.trans hF
        refine lv_iload_n hx hb d_M_right_29 rfl (lv_at hl 3 rfl) ?_
        refine lv_if_eq hx hb d_M_right_30 (tgt := 207) (by decide) (fun h9 => ?_) (fun h9 => ?_)
        · have hF := (if_pos h9).symm.trans hF
          cases Option.some.inj hF
          exact k14 _ _ ls hP hD hS (lv_sub hl [0, 1, 2, 3, 4, 5] rfl)
        · have hF := (if_neg h9).symm.trans hF
          refine lv_iload hx hb d_M_right_33 (lv_at hl 0 rfl) ?_
          obtain ⟨j17, q19, hF⟩ := Option.bind_eq_some_iff.mp hF
          have k18 : ∀ (H : Heap) (locs : List Loc) (ls : Array Slot), va_P D vwC (wM A cc g7) H → va_D AA (wM A cc g7) → va_S AA s.heap H locs → lv_has ls 15 [(8, .int u3), (6, .long u4), (4, .long u5), (0, .ref (A 0)), (1, .long a0)] → W p l e rm_M_right s m ([Value.ref (A 0), Value.long a0] : List Value).toArray below meth c H locs 0 0 (MQ below (va_Qi (fun r u => (r, u) = res) (bw D (wM A cc) (kM cc) AA) AA) ([Value.ref (A 0), Value.long a0] : List Value).toArray s 0 0 AA) (F0 m 58 ls [.long j17]) := by
            intro H locs ls hP hD hS hl
            refine lv_lstore hx hb d_M_right_58 hl (by decide) (lv' := [(9, .long j17), (8, .int u3), (6, .long u4), (4, .long u5), (0, .ref (A 0)), (1, .long a0)]) rfl (fun ls hl => ?_)
            refine lv_aload_n hx hb d_M_right_60 rfl (lv_at hl 4 rfl) ?_
            refine va_get (D := D) (ci := 3) (v := .ref (A 5)) (C := R_M) (T := T_M) (N := 13) hx hb hts in_M hown hK hP 0 rfl rfl 7 (by decide) (hw _ ww_541) (fun _ h9 => h9) rfl d_M_right_61 ?_
            refine lv_iload hx hb d_M_right_64 (lv_at hl 1 rfl) ?_
            by_cases h21 : u3 < 0 ∨ 8 ≤ Int32.toNatClampNeg u3
            · have h0 := (if_pos h21).symm.trans hF; cases h0
            have hF := (if_neg h21).symm.trans hF
            refine va_iald hx hb hK hP 5 4 rfl rfl h21 d_M_right_66 ?_
            refine lv_i2l (v := Int32.toInt64 (g7.2.2.2.2.2.2.2.1 (Int32.toNatClampNeg u3))) hx hb d_M_right_67 rfl ?_
            refine lv_iconst (v := 0) hx hb d_M_right_68 (by decide) ?_
            obtain ⟨r22, e_r22, hF⟩ := Option.bind_eq_some_iff.mp hF
            refine vp_callSl (va_runS (As := [.long (Int32.toInt64 (g7.2.2.2.2.2.2.2.1 (Int32.toNatClampNeg u3))), .int 0]) (rest := []) ⟨hx, hb, hml, hown, hts⟩ (k_M_lift l (Int32.toInt64 (g7.2.2.2.2.2.2.2.1 (Int32.toNatClampNeg u3))) 0 r22 e_r22) (va_cwS 2 hts (ga_S ww_626 ww_627 ww_4 ww_628) rfl rfl rfl (by decide +kernel) ⟨by decide, by decide⟩) (pcs_pre hN) rfl rfl hl.1 rfl (lv_room (Nat.le_of_ble_eq_true rfl)) d_M_right_69 ⟨Nat.zero_le _, Nat.zero_le _⟩).run (fun z9 hz9 => ?_)
            obtain rfl : r22 = z9 := hz9.symm
            refine lv_lstore hx hb d_M_right_72 hl (by decide) (lv' := [(11, .long r22), (9, .long j17), (8, .int u3), (6, .long u4), (4, .long u5), (0, .ref (A 0)), (1, .long a0)]) rfl (fun ls hl => ?_)
            refine lv_lload hx hb d_M_right_74 (lv_at hl 0 rfl) ?_
            refine lv_ldc2 (v := (-1)) hx hb hown (hw _ ww_533) d_M_right_76 ?_
            refine W.lcmp hx hb d_M_right_79 ?_
            obtain ⟨j23, q25, hF⟩ := Option.bind_eq_some_iff.mp hF
            have k24 : ∀ (H : Heap) (locs : List Loc) (ls : Array Slot), va_P D vwC (wM A cc g7) H → va_D AA (wM A cc g7) → va_S AA s.heap H locs → lv_has ls 15 [(11, .long r22), (9, .long j17), (8, .int u3), (6, .long u4), (4, .long u5), (0, .ref (A 0)), (1, .long a0)] → W p l e rm_M_right s m ([Value.ref (A 0), Value.long a0] : List Value).toArray below meth c H locs 0 0 (MQ below (va_Qi (fun r u => (r, u) = res) (bw D (wM A cc) (kM cc) AA) AA) ([Value.ref (A 0), Value.long a0] : List Value).toArray s 0 0 AA) (F0 m 101 ls [.int j23]) := by
              intro H locs ls hP hD hS hl
              refine lv_istore_n hx hb d_M_right_101 rfl hl (by decide) (lv' := [(3, .int j23), (11, .long r22), (9, .long j17), (8, .int u3), (6, .long u4), (4, .long u5), (0, .ref (A 0)), (1, .long a0)]) rfl (fun ls hl => ?_)
              refine lv_iload_n hx hb d_M_right_102 rfl (lv_at hl 0 rfl) ?_
              obtain ⟨⟨j27, j28⟩, q30, hF⟩ := Option.bind_eq_some_iff.mp hF
              have k29 : ∀ (H : Heap) (locs : List Loc) (ls : Array Slot), va_P D vwC (wM A cc g7) H → va_D AA (wM A cc g7) → va_S AA s.heap H locs → lv_has ls 15 [(3, .int j23), (8, .int u3), (6, .long j27), (4, .long j28), (0, .ref (A 0)), (1, .long a0)] → W p l e rm_M_right s m ([Value.ref (A 0), Value.long a0] : List Value).toArray below meth c H locs 0 0 (MQ below (va_Qi (fun r u => (r, u) = res) (bw D (wM A cc) (kM cc) AA) AA) ([Value.ref (A 0), Value.long a0] : List Value).toArray s 0 0 AA) (F0 m 201 ls []) := by
                intro H locs ls hP hD hS hl
                obtain ⟨v32, e_v32, hF⟩ := Option.bind_eq_some_iff.mp hF
                refine lv_iinc hx hb d_M_right_201 hl (k := 1) (v := v32) rfl ((show _ = u3 + 1 from rfl).trans (Option.some.inj e_v32)) (by decide) (lv' := [(8, .int v32), (3, .int j23), (6, .long j27), (4, .long j28), (0, .ref (A 0)), (1, .long a0)]) rfl (fun ls hl => ?_)
                refine lv_goto hx hb d_M_right_204 (tgt := 20) (by decide) ?_
                exact ih g7 v32 j27 j28 j23 _ _ ls hP hD hS (lv_sub hl [0, 2, 3, 1, 4, 5] rfl) hF
              clear hF
              have hF := q30
              refine lv_if_eq hx hb d_M_right_103 (tgt := 201) (by decide) (fun h9 => ?_) (fun h9 => ?_)
              · have hF := (if_pos h9).symm.trans hF
                cases Option.some.inj hF
                exact k29 _ _ ls hP hD hS (lv_sub hl [0, 3, 4, 5, 6, 7] rfl)
              · have hF := (if_neg h9).symm.trans hF
                refine lv_aload_n hx hb d_M_right_106 rfl (lv_at hl 6 rfl) ?_
                refine va_get (D := D) (ci := 3) (v := .ref (A 5)) (C := R_M) (T := T_M) (N := 13) hx hb hts in_M hown hK hP 0 rfl rfl 7 (by decide) (hw _ ww_541) (fun _ h9 => h9) rfl d_M_right_107 ?_
                refine lv_iload hx hb d_M_right_110 (lv_at hl 3 rfl) ?_
                by_cases h33 : u3 < 0 ∨ 8 ≤ Int32.toNatClampNeg u3
                · have h0 := (if_pos h33).symm.trans hF; cases h0
                have hF := (if_neg h33).symm.trans hF
                refine va_iald hx hb hK hP 5 4 rfl rfl h33 d_M_right_112 ?_
                refine lv_i2l (v := Int32.toInt64 (g7.2.2.2.2.2.2.2.1 (Int32.toNatClampNeg u3))) hx hb d_M_right_113 rfl ?_
                refine lv_aload_n hx hb d_M_right_114 rfl (lv_at hl 6 rfl) ?_
                refine va_get (D := D) (ci := 3) (v := .ref (A 3)) (C := R_M) (T := T_M) (N := 13) hx hb hts in_M hown hK hP 0 rfl rfl 5 (by decide) (hw _ ww_539) (fun _ h9 => h9) rfl d_M_right_115 ?_
                refine lv_iload hx hb d_M_right_118 (lv_at hl 3 rfl) ?_
                by_cases h34 : u3 < 0 ∨ 8 ≤ Int32.toNatClampNeg u3
                · have h0 := (if_pos h34).symm.trans hF; cases h0
                have hF := (if_neg h34).symm.trans hF
                refine va_lald hx hb hK hP 3 2 rfl rfl h34 d_M_right_120 ?_
                refine lv_aload_n hx hb d_M_right_121 rfl (lv_at hl 6 rfl) ?_
                refine va_get (D := D) (ci := 3) (v := .ref (A 4)) (C := R_M) (T := T_M) (N := 13) hx hb hts in_M hown hK hP 0 rfl rfl 6 (by decide) (hw _ ww_540) (fun _ h9 => h9) rfl d_M_right_122 ?_
                refine lv_iload hx hb d_M_right_125 (lv_at hl 3 rfl) ?_
                by_cases h35 : u3 < 0 ∨ 8 ≤ Int32.toNatClampNeg u3
                · have h0 := (if_pos h35).symm.trans hF; cases h0
                have hF := (if_neg h35).symm.trans hF
                refine va_lald hx hb hK hP 4 3 rfl rfl h35 d_M_right_127 ?_
                obtain ⟨r36, e_r36, hF⟩ := Option.bind_eq_some_iff.mp hF
                refine vp_callSl (va_runS (As := [.long (Int32.toInt64 (g7.2.2.2.2.2.2.2.1 (Int32.toNatClampNeg u3))), .long (g7.2.2.2.2.2.1 (Int32.toNatClampNeg u3)), .long (g7.2.2.2.2.2.2.1 (Int32.toNatClampNeg u3))]) (rest := []) ⟨hx, hb, hml, hown, hts⟩ (k_M_challenge l (Int32.toInt64 (g7.2.2.2.2.2.2.2.1 (Int32.toNatClampNeg u3))) (g7.2.2.2.2.2.1 (Int32.toNatClampNeg u3)) (g7.2.2.2.2.2.2.1 (Int32.toNatClampNeg u3)) r36 e_r36) (va_cwS 3 hts (ga_S ww_705 ww_706 ww_4 ww_707) rfl rfl rfl (by decide +kernel) ⟨by decide, by decide⟩) (pcs_pre hN) rfl rfl hl.1 rfl (lv_room (Nat.le_of_ble_eq_true rfl)) d_M_right_128 ⟨Nat.zero_le _, Nat.zero_le _⟩).run (fun z9 hz9 => ?_)
                obtain rfl : r36 = z9 := hz9.symm
                refine lv_lstore hx hb d_M_right_131 hl (by decide) (lv' := [(13, .long r36), (3, .int j23), (11, .long r22), (9, .long j17), (8, .int u3), (6, .long u4), (4, .long u5), (0, .ref (A 0)), (1, .long a0)]) rfl (fun ls hl => ?_)
                refine lv_lload hx hb d_M_right_133 (lv_at hl 6 rfl) ?_
                refine lv_lload hx hb d_M_right_135 (lv_at hl 3 rfl) ?_
                refine lv_aload_n hx hb d_M_right_137 rfl (lv_at hl 7 rfl) ?_
                refine va_get (D := D) (ci := 3) (v := .ref (A 6)) (C := R_M) (T := T_M) (N := 13) hx hb hts in_M hown hK hP 0 rfl rfl 8 (by decide) (hw _ ww_542) (fun _ h9 => h9) rfl d_M_right_138 ?_
                refine lv_iload hx hb d_M_right_141 (lv_at hl 4 rfl) ?_
                by_cases h37 : u3 < 0 ∨ 8 ≤ Int32.toNatClampNeg u3
                · have h0 := (if_pos h37).symm.trans hF; cases h0
                have hF := (if_neg h37).symm.trans hF
                refine va_iald hx hb hK hP 6 5 rfl rfl h37 d_M_right_143 ?_
                refine lv_i2l (v := Int32.toInt64 (g7.2.2.2.2.2.2.2.2.1 (Int32.toNatClampNeg u3))) hx hb d_M_right_144 rfl ?_
                refine lv_lmul hx hb d_M_right_145 ?_
                refine lv_ldc2 (v := 1073729077) hx hb hown (hw _ ww_585) d_M_right_146 ?_
                refine lv_lrem hx hb d_M_right_149 (by decide) ?_
                obtain ⟨r38, e_r38, hF⟩ := Option.bind_eq_some_iff.mp hF
                refine vp_callSl (va_runS (As := []) (rest := [.long ((j17 * (Int32.toInt64 (g7.2.2.2.2.2.2.2.2.1 (Int32.toNatClampNeg u3)))) - (j17 * (Int32.toInt64 (g7.2.2.2.2.2.2.2.2.1 (Int32.toNatClampNeg u3)))) / 1073729077 * 1073729077), .long u5]) ⟨hx, hb, hml, hown, hts⟩ (k_M_g l  r38 e_r38) (va_cwS 0 hts (ga_S ww_586 ww_587 ww_4 ww_588) rfl rfl rfl (by decide +kernel) ⟨by decide, by decide⟩) (pcs_pre hN) rfl rfl hl.1 rfl (lv_room (Nat.le_of_ble_eq_true rfl)) d_M_right_150 ⟨Nat.zero_le _, Nat.zero_le _⟩).run (fun z9 hz9 => ?_)
                obtain rfl : r38 = z9 := hz9.symm
                obtain ⟨r39, e_r39, hF⟩ := Option.bind_eq_some_iff.mp hF
                refine vp_callSl (va_runS (As := [.long ((j17 * (Int32.toInt64 (g7.2.2.2.2.2.2.2.2.1 (Int32.toNatClampNeg u3)))) - (j17 * (Int32.toInt64 (g7.2.2.2.2.2.2.2.2.1 (Int32.toNatClampNeg u3)))) / 1073729077 * 1073729077), .long r38]) (rest := [.long u5]) ⟨hx, hb, hml, hown, hts⟩ (k_M_times l ((j17 * (Int32.toInt64 (g7.2.2.2.2.2.2.2.2.1 (Int32.toNatClampNeg u3)))) - (j17 * (Int32.toInt64 (g7.2.2.2.2.2.2.2.2.1 (Int32.toNatClampNeg u3)))) / 1073729077 * 1073729077) r38 r39 e_r39) (va_cwS 2 hts (ga_S ww_590 ww_591 ww_4 ww_592) rfl rfl rfl (by decide +kernel) ⟨by decide, by decide⟩) (pcs_pre hN) rfl rfl hl.1 rfl (lv_room (Nat.le_of_ble_eq_true rfl)) d_M_right_153 ⟨Nat.zero_le _, Nat.zero_le _⟩).run (fun z9 hz9 => ?_)
                obtain rfl : r39 = z9 := hz9.symm
                obtain ⟨r40, e_r40, hF⟩ := Option.bind_eq_some_iff.mp hF
                refine vp_callSl (va_runS (As := [.long u5, .long r39]) (rest := []) ⟨hx, hb, hml, hown, hts⟩ (k_M_sum l u5 r39 r40 e_r40) (va_cwS 2 hts (ga_S ww_594 ww_595 ww_4 ww_596) rfl rfl rfl (by decide +kernel) ⟨by decide, by decide⟩) (pcs_pre hN) rfl rfl hl.1 rfl (lv_room (Nat.le_of_ble_eq_true rfl)) d_M_right_156 ⟨Nat.zero_le _, Nat.zero_le _⟩).run (fun z9 hz9 => ?_)
                obtain rfl : r40 = z9 := hz9.symm
                refine lv_lstore hx hb d_M_right_159 hl (by decide) (lv' := [(4, .long r40), (13, .long r36), (3, .int j23), (11, .long r22), (9, .long j17), (8, .int u3), (6, .long u4), (0, .ref (A 0)), (1, .long a0)]) rfl (fun ls hl => ?_)
                refine lv_lload hx hb d_M_right_161 (lv_at hl 6 rfl) ?_
                refine lv_lload hx hb d_M_right_163 (lv_at hl 4 rfl) ?_
                refine lv_lload hx hb d_M_right_165 (lv_at hl 3 rfl) ?_
                obtain ⟨r41, e_r41, hF⟩ := Option.bind_eq_some_iff.mp hF
                refine vp_callSl (va_runS (As := [.long j17, .long r22]) (rest := [.long u4]) ⟨hx, hb, hml, hown, hts⟩ (k_M_times l j17 r22 r41 e_r41) (va_cwS 2 hts (ga_S ww_590 ww_591 ww_4 ww_592) rfl rfl rfl (by decide +kernel) ⟨by decide, by decide⟩) (pcs_pre hN) rfl rfl hl.1 rfl (lv_room (Nat.le_of_ble_eq_true rfl)) d_M_right_167 ⟨Nat.zero_le _, Nat.zero_le _⟩).run (fun z9 hz9 => ?_)
                obtain rfl : r41 = z9 := hz9.symm
                refine lv_lload hx hb d_M_right_170 (lv_at hl 4 rfl) ?_
                refine lv_lload hx hb d_M_right_172 (lv_at hl 1 rfl) ?_
                refine lv_lmul hx hb d_M_right_174 ?_
                refine lv_ldc2 (v := 1073729077) hx hb hown (hw _ ww_585) d_M_right_175 ?_
                refine lv_lrem hx hb d_M_right_178 (by decide) ?_
                refine lv_aload_n hx hb d_M_right_179 rfl (lv_at hl 7 rfl) ?_
                refine va_get (D := D) (ci := 3) (v := .ref (A 3)) (C := R_M) (T := T_M) (N := 13) hx hb hts in_M hown hK hP 0 rfl rfl 5 (by decide) (hw _ ww_539) (fun _ h9 => h9) rfl d_M_right_180 ?_
                refine lv_iload hx hb d_M_right_183 (lv_at hl 5 rfl) ?_
                by_cases h42 : u3 < 0 ∨ 8 ≤ Int32.toNatClampNeg u3
                · have h0 := (if_pos h42).symm.trans hF; cases h0
                have hF := (if_neg h42).symm.trans hF
                refine va_lald hx hb hK hP 3 2 rfl rfl h42 d_M_right_185 ?_
                refine lv_iconst (v := 0) hx hb d_M_right_186 (by decide) ?_
                obtain ⟨r43, e_r43, hF⟩ := Option.bind_eq_some_iff.mp hF
                refine vp_callSl (va_runS (As := [.long (g7.2.2.2.2.2.1 (Int32.toNatClampNeg u3)), .int 0]) (rest := [.long ((j17 * r36) - (j17 * r36) / 1073729077 * 1073729077), .long r41, .long u4]) ⟨hx, hb, hml, hown, hts⟩ (k_M_lift l (g7.2.2.2.2.2.1 (Int32.toNatClampNeg u3)) 0 r43 e_r43) (va_cwS 2 hts (ga_S ww_626 ww_627 ww_4 ww_628) rfl rfl rfl (by decide +kernel) ⟨by decide, by decide⟩) (pcs_pre hN) rfl rfl hl.1 rfl (lv_room (Nat.le_of_ble_eq_true rfl)) d_M_right_187 ⟨Nat.zero_le _, Nat.zero_le _⟩).run (fun z9 hz9 => ?_)
                obtain rfl : r43 = z9 := hz9.symm
                obtain ⟨r44, e_r44, hF⟩ := Option.bind_eq_some_iff.mp hF
                refine vp_callSl (va_runS (As := [.long ((j17 * r36) - (j17 * r36) / 1073729077 * 1073729077), .long r43]) (rest := [.long r41, .long u4]) ⟨hx, hb, hml, hown, hts⟩ (k_M_times l ((j17 * r36) - (j17 * r36) / 1073729077 * 1073729077) r43 r44 e_r44) (va_cwS 2 hts (ga_S ww_590 ww_591 ww_4 ww_592) rfl rfl rfl (by decide +kernel) ⟨by decide, by decide⟩) (pcs_pre hN) rfl rfl hl.1 rfl (lv_room (Nat.le_of_ble_eq_true rfl)) d_M_right_190 ⟨Nat.zero_le _, Nat.zero_le _⟩).run (fun z9 hz9 => ?_)
                obtain rfl : r44 = z9 := hz9.symm
                obtain ⟨r45, e_r45, hF⟩ := Option.bind_eq_some_iff.mp hF
                refine vp_callSl (va_runS (As := [.long r41, .long r44]) (rest := [.long u4]) ⟨hx, hb, hml, hown, hts⟩ (k_M_sum l r41 r44 r45 e_r45) (va_cwS 2 hts (ga_S ww_594 ww_595 ww_4 ww_596) rfl rfl rfl (by decide +kernel) ⟨by decide, by decide⟩) (pcs_pre hN) rfl rfl hl.1 rfl (lv_room (Nat.le_of_ble_eq_true rfl)) d_M_right_193 ⟨Nat.zero_le _, Nat.zero_le _⟩).run (fun z9 hz9 => ?_)
                obtain rfl : r45 = z9 := hz9.symm
                obtain ⟨r46, e_r46, hF⟩ := Option.bind_eq_some_iff.mp hF
                refine vp_callSl (va_runS (As := [.long u4, .long r45]) (rest := []) ⟨hx, hb, hml, hown, hts⟩ (k_M_sum l u4 r45 r46 e_r46) (va_cwS 2 hts (ga_S ww_594 ww_595 ww_4 ww_596) rfl rfl rfl (by decide +kernel) ⟨by decide, by decide⟩) (pcs_pre hN) rfl rfl hl.1 rfl (lv_room (Nat.le_of_ble_eq_true rfl)) d_M_right_196 ⟨Nat.zero_le _, Nat.zero_le _⟩).run (fun z9 hz9 => ?_)
                obtain rfl : r46 = z9 := hz9.symm
                refine lv_lstore hx hb d_M_right_199 hl (by decide) (lv' := [(6, .long r46), (4, .long r40), (13, .long r36), (3, .int j23), (11, .long r22), (9, .long j17), (8, .int u3), (0, .ref (A 0)), (1, .long a0)]) rfl (fun ls hl => ?_)
                cases Option.some.inj hF
                exact k29 _ _ ls hP hD hS (lv_sub hl [3, 6, 0, 1, 7, 8] rfl)
            clear hF
            have hF := q25
            refine lv_if_eq hx hb d_M_right_80 (tgt := 100) (by decide) (fun h9 => ?_) (fun h9 => ?_)
            · have hF := (if_pos h9).symm.trans hF
              refine lv_iconst (v := 0) hx hb d_M_right_100 (by decide) ?_
              obtain rfl := Option.some.inj hF
              exact k24 _ _ ls hP hD hS (lv_sub hl [0, 1, 2, 3, 4, 5, 6] rfl)
            · have hF := (if_neg h9).symm.trans hF
              refine lv_aload_n hx hb d_M_right_83 rfl (lv_at hl 5 rfl) ?_
              refine va_get (D := D) (ci := 3) (v := .ref (A 6)) (C := R_M) (T := T_M) (N := 13) hx hb hts in_M hown hK hP 0 rfl rfl 8 (by decide) (hw _ ww_542) (fun _ h9 => h9) rfl d_M_right_84 ?_
              refine lv_iload hx hb d_M_right_87 (lv_at hl 2 rfl) ?_
              by_cases h47 : u3 < 0 ∨ 8 ≤ Int32.toNatClampNeg u3
              · have h0 := (if_pos h47).symm.trans hF; cases h0
              have hF := (if_neg h47).symm.trans hF
              refine va_iald hx hb hK hP 6 5 rfl rfl h47 d_M_right_89 ?_
              obtain ⟨r48, e_r48, hF⟩ := Option.bind_eq_some_iff.mp hF
              refine vp_callSi (va_runS (As := [.int (g7.2.2.2.2.2.2.2.2.1 (Int32.toNatClampNeg u3))]) (rest := []) ⟨hx, hb, hml, hown, hts⟩ (k_M_isScalar l (g7.2.2.2.2.2.2.2.2.1 (Int32.toNatClampNeg u3)) r48 e_r48) (va_cwS 1 hts (ga_S ww_651 ww_652 ww_4 ww_653) rfl rfl rfl (by decide +kernel) ⟨by decide, by decide⟩) (pcs_pre hN) rfl rfl hl.1 rfl (lv_room (Nat.le_of_ble_eq_true rfl)) d_M_right_90 ⟨Nat.zero_le _, Nat.zero_le _⟩).run (fun z9 hz9 => ?_)
              obtain rfl : r48 = z9 := hz9.symm
              refine lv_if_eq hx hb d_M_right_93 (tgt := 100) (by decide) (fun h9 => ?_) (fun h9 => ?_)
              · have hF := (if_pos h9).symm.trans hF
                refine lv_iconst (v := 0) hx hb d_M_right_100 (by decide) ?_
                obtain rfl := Option.some.inj hF
                exact k24 _ _ ls hP hD hS (lv_sub hl [0, 1, 2, 3, 4, 5, 6] rfl)
              · have hF := (if_neg h9).symm.trans hF
                refine lv_iconst (v := 1) hx hb d_M_right_96 (by decide) ?_
                refine lv_goto hx hb d_M_right_97 (tgt := 101) (by decide) ?_
                obtain rfl := Option.some.inj hF
                exact k24 _ _ ls hP hD hS (lv_sub hl [0, 1, 2, 3, 4, 5, 6] rfl)
          clear hF
          have hF := q19
          refine lv_if_ne hx hb d_M_right_35 (tgt := 42) (by decide) (fun h9 => ?_) (fun h9 => ?_)
          · have hF := (if_neg h9).symm.trans hF
            refine lv_lconst (v := 1) hx hb d_M_right_42 (by decide) ?_
            refine lv_lload_n hx hb d_M_right_43 rfl (lv_at hl 5 rfl) ?_
            refine lv_iload hx hb d_M_right_44 (lv_at hl 0 rfl) ?_
            refine lv_i2l (v := Int32.toInt64 u3) hx hb d_M_right_46 rfl ?_
            obtain ⟨r49, e_r49, hF⟩ := Option.bind_eq_some_iff.mp hF
            refine vp_callSl (va_runS (As := [.long a0, .long (Int32.toInt64 u3)]) (rest := [.long 1]) ⟨hx, hb, hml, hown, hts⟩ (k_M_h l a0 (Int32.toInt64 u3) r49 e_r49) (va_cwS 2 hts (ga_S ww_674 ww_675 ww_4 ww_676) rfl rfl rfl (by decide +kernel) ⟨by decide, by decide⟩) (pcs_pre hN) rfl rfl hl.1 rfl (lv_room (Nat.le_of_ble_eq_true rfl)) d_M_right_47 ⟨Nat.zero_le _, Nat.zero_le _⟩).run (fun z9 hz9 => ?_)
            obtain rfl : r49 = z9 := hz9.symm
            refine lv_bipush (v := 34) hx hb d_M_right_50 (by decide) ?_
            refine lv_lushr (v := (Int64.toUInt64 r49 >>> ((Int32.toInt64 34).toUInt64 &&& Int64.toUInt64 63)).toInt64) hx hb d_M_right_52 rfl ?_
            refine lv_ldc2 (v := 1073729076) hx hb hown (hw _ ww_721) d_M_right_53 ?_
            refine lv_lrem hx hb d_M_right_56 (by decide) ?_
            refine lv_ladd hx hb d_M_right_57 ?_
            obtain rfl := Option.some.inj hF
            exact k18 _ _ ls hP hD hS (lv_sub hl [0, 1, 2, 4, 5] rfl)
          · have hF := (if_pos h9).symm.trans hF
            refine lv_lconst (v := 1) hx hb d_M_right_38 (by decide) ?_
            refine lv_goto hx hb d_M_right_39 (tgt := 58) (by decide) ?_
            obtain rfl := Option.some.inj hF
            exact k18 _ _ ls hP hD hS (lv_sub hl [0, 1, 2, 4, 5] rfl)
  exact k8 64 (0, g0.2.1, g0.2.2.1, g0.2.2.2.1, g0.2.2.2.2.1, g0.2.2.2.2.2.1, g0.2.2.2.2.2.2.1, g0.2.2.2.2.2.2.2.1, g0.2.2.2.2.2.2.2.2.1, g0.2.2.2.2.2.2.2.2.2.1, g0.2.2.2.2.2.2.2.2.2.2.1, g0.2.2.2.2.2.2.2.2.2.2.2.1, g0.2.2.2.2.2.2.2.2.2.2.2.2) 0 v2 v1 1 _ _ ls hP hD hS (lv_sub hl [0, 1, 2, 3, 4, 5] rfl) q50
def f_M_agree (g0 : sM) (a0 : Int32) (a1 : Int32) : Option (Int64 × sM) := Option.bind (f_M_isSlot a0) (fun r1 => Option.bind (if r1 = 0 then (some (1, g0) : Option (Int32 × sM)) else (Option.bind (f_M_isSlot a1) (fun r13 => if r13 = 0 then (some (1, g0)) else (if a0 < 0 ∨ 6 ≤ Int32.toNatClampNeg a0 then none else (if (lg_cmp (g0.2.2.1 (Int32.toNatClampNeg a0)) 0) = 0 then (some (2, g0)) else (Option.bind (f_M_full g0 a1) (fun t17 => match t17 with | (r16, g15) => (if r16 = 0 then (some (3, g15)) else (some (0, g15)))))))))) (fun t6 => match t6 with | (j2, j3) => (if j2 = 0 then (if a0 < 0 ∨ 6 ≤ Int32.toNatClampNeg a0 then none else (if a1 < 0 ∨ 6 ≤ Int32.toNatClampNeg a1 then none else (Option.bind (f_M_times (j3.2.2.1 (Int32.toNatClampNeg a0)) (j3.2.1 (Int32.toNatClampNeg a1))) (fun r9 => Option.bind (f_M_xOf r9) (fun r10 => Option.bind (f_M_yOf r9) (fun r11 => Option.bind (f_M_h r10 r11) (fun r12 => some (r12, (j2, j3.2.1, j3.2.2.1, j3.2.2.2.1, j3.2.2.2.2.1, j3.2.2.2.2.2.1, j3.2.2.2.2.2.2.1, j3.2.2.2.2.2.2.2.1, j3.2.2.2.2.2.2.2.2.1, j3.2.2.2.2.2.2.2.2.2.1, j3.2.2.2.2.2.2.2.2.2.2.1, j3.2.2.2.2.2.2.2.2.2.2.2.1, j3.2.2.2.2.2.2.2.2.2.2.2.2))))))))) else (some (0, (j2, j3.2.1, j3.2.2.1, j3.2.2.2.1, j3.2.2.2.2.1, j3.2.2.2.2.2.1, j3.2.2.2.2.2.2.1, j3.2.2.2.2.2.2.2.1, j3.2.2.2.2.2.2.2.2.1, j3.2.2.2.2.2.2.2.2.2.1, j3.2.2.2.2.2.2.2.2.2.2.1, j3.2.2.2.2.2.2.2.2.2.2.2.1, j3.2.2.2.2.2.2.2.2.2.2.2.2))))))
abbrev rm_M_agree : Room := { frames := 5, cells := 0, slots := 0, locals := 147 }
set_option maxHeartbeats 4000000 in
set_option maxRecDepth 100000 in
theorem k_M_agree (l : Launch) (D : va_G) (A : Nat → Nat) (cc : Nat → ClassId) (g0 : sM) (a0 : Int32) (a1 : Int32) (sz : Nat) (res : (Int64 × sM)) (hF : f_M_agree g0 a0 a1 = some res) : Met l y_M_agree (Cond.code y_M_agree b_M_agree 5 (some .long) :: wa) rm_M_agree (pw D (wM A cc g0) (kM cc) [.ref (A 0), .int a0, .int a1] sz) (va_Ql (fun r u => (r, u) = res) (bw D (wM A cc) (kM cc) (va_A (wM A cc g0) sz)) (va_A (wM A cc g0) sz)) 0 0 (va_A (wM A cc g0) sz) := by
  refine Met.ofW (cc := b_M_agree) (maxL := 5) (ret := (some .long)) (by decide) rfl ?_
  intro p e s m args below meth c s₁ B hml hv
  obtain ⟨rfl, hsz, hP, hK, hD0, hN⟩ := hv
  have hx := B.exec
  have hb := B.bytes
  have hr := B.returns
  have hts := atoms_spec (ws := Cond.code y_M_agree b_M_agree 5 (some .long) :: wa) B.pre
  have hw : ∀ w ∈ wa, w.before _ s = true := fun w h => hts w (List.mem_cons_of_mem _ h)
  have hown : s.vm.findClass R_M = some m.cls := findClass_of_methodNamed B.named
  have hlocks := B.notSynchronized
  subst hsz
  have hD := hD0.self (sz := s.heap.size)
  generalize hAe : va_A (wM A cc g0) s.heap.size = AA at hD ⊢
  have hA : ∀ q : Nat, s.heap.size ≤ q → AA q := fun q h => by rw [← hAe]; exact Or.inr h
  have hS : va_S AA s.heap s.heap [] := va_S.rf
  have hl := lv_entry ([.ref (A 0), .int a0, .int a1]) (n := 5) (Nat.le_of_ble_eq_true rfl)
  rw [lg_entry_eq]
  generalize (lg_sl ([.ref (A 0), .int a0, .int a1]) ++ List.replicate (5 - (lg_sl ([.ref (A 0), .int a0, .int a1])).length) Slot.unset).toArray = ls at hl ⊢
  have hl : lv_has ls 5 [(0, .ref (A 0)), (1, .int a0), (2, .int a1)] := hl
  unfold f_M_agree at hF
  refine lv_aload_n hx hb d_M_agree_0 rfl (lv_at hl 0 rfl) ?_
  refine lv_iload_n hx hb d_M_agree_1 rfl (lv_at hl 1 rfl) ?_
  obtain ⟨r1, e_r1, hF⟩ := Option.bind_eq_some_iff.mp hF
  refine vp_callSi (va_runS (As := [.int a0]) (rest := [.ref (A 0)]) ⟨hx, hb, hml, hown, hts⟩ (k_M_isSlot l a0 r1 e_r1) (va_cwS 1 hts (ga_S ww_582 ww_583 ww_4 ww_584) rfl rfl rfl (by decide +kernel) ⟨by decide, by decide⟩) (pcs_pre hN) rfl rfl hl.1 rfl (lv_room (Nat.le_of_ble_eq_true rfl)) d_M_agree_2 ⟨Nat.zero_le _, Nat.zero_le _⟩).run (fun z9 hz9 => ?_)
  obtain rfl : r1 = z9 := hz9.symm
  obtain ⟨⟨j2, j3⟩, q5, hF⟩ := Option.bind_eq_some_iff.mp hF
  have k4 : ∀ (H : Heap) (locs : List Loc) (ls : Array Slot), va_P D vwC (wM A cc j3) H → va_D AA (wM A cc j3) → va_S AA s.heap H locs → lv_has ls 5 [(0, .ref (A 0)), (1, .int a0), (2, .int a1)] → W p l e rm_M_agree s m ([Value.ref (A 0), Value.int a0, Value.int a1] : List Value).toArray below meth c H locs 0 0 (MQ below (va_Ql (fun r u => (r, u) = res) (bw D (wM A cc) (kM cc) AA) AA) ([Value.ref (A 0), Value.int a0, Value.int a1] : List Value).toArray s 0 0 AA) (F0 m 47 ls [.int j2, .ref (A 0)]) := by
    intro H locs ls hP hD hS hl
    refine va_put (D := D) (ci := 3) (v := .int j2) (ty := .int) (C := R_M) (T := T_M) (N := 13) hx hb hts in_M ft_M ft_M_ok fn_M hown hK hP hD hS 0 rfl rfl 0 (by decide) (hw _ ww_534) (fun _ h9 => h9) rfl (by decide +kernel) rfl rfl (Nat.le_of_ble_eq_true rfl) d_M_agree_47 (fun H locs hP hD hS => ?_)
    have hP : va_P D vwC (wM A cc (j2, j3.2.1, j3.2.2.1, j3.2.2.2.1, j3.2.2.2.2.1, j3.2.2.2.2.2.1, j3.2.2.2.2.2.2.1, j3.2.2.2.2.2.2.2.1, j3.2.2.2.2.2.2.2.2.1, j3.2.2.2.2.2.2.2.2.2.1, j3.2.2.2.2.2.2.2.2.2.2.1, j3.2.2.2.2.2.2.2.2.2.2.2.1, j3.2.2.2.2.2.2.2.2.2.2.2.2)) H := hP
    have hD : va_D AA (wM A cc (j2, j3.2.1, j3.2.2.1, j3.2.2.2.1, j3.2.2.2.2.1, j3.2.2.2.2.2.1, j3.2.2.2.2.2.2.1, j3.2.2.2.2.2.2.2.1, j3.2.2.2.2.2.2.2.2.1, j3.2.2.2.2.2.2.2.2.2.1, j3.2.2.2.2.2.2.2.2.2.2.1, j3.2.2.2.2.2.2.2.2.2.2.2.1, j3.2.2.2.2.2.2.2.2.2.2.2.2)) := hD
    refine lv_aload_n hx hb d_M_agree_50 rfl (lv_at hl 0 rfl) ?_
    refine va_get (D := D) (ci := 3) (v := .int j2) (C := R_M) (T := T_M) (N := 13) hx hb hts in_M hown hK hP 0 rfl rfl 0 (by decide) (hw _ ww_534) (fun _ h9 => h9) rfl d_M_agree_51 ?_
    refine lv_if_eq hx hb d_M_agree_54 (tgt := 59) (by decide) (fun h9 => ?_) (fun h9 => ?_)
    · have hF := (if_pos h9).symm.trans hF
      refine lv_aload_n hx hb d_M_agree_59 rfl (lv_at hl 0 rfl) ?_
      refine va_get (D := D) (ci := 3) (v := .ref (A 2)) (C := R_M) (T := T_M) (N := 13) hx hb hts in_M hown hK hP 0 rfl rfl 2 (by decide) (hw _ ww_536) (fun _ h9 => h9) rfl d_M_agree_60 ?_
      refine lv_iload_n hx hb d_M_agree_63 rfl (lv_at hl 1 rfl) ?_
      by_cases h7 : a0 < 0 ∨ 6 ≤ Int32.toNatClampNeg a0
      · have h0 := (if_pos h7).symm.trans hF; cases h0
      have hF := (if_neg h7).symm.trans hF
      refine va_lald hx hb hK hP 2 1 rfl rfl h7 d_M_agree_64 ?_
      refine lv_aload_n hx hb d_M_agree_65 rfl (lv_at hl 0 rfl) ?_
      refine va_get (D := D) (ci := 3) (v := .ref (A 1)) (C := R_M) (T := T_M) (N := 13) hx hb hts in_M hown hK hP 0 rfl rfl 1 (by decide) (hw _ ww_535) (fun _ h9 => h9) rfl d_M_agree_66 ?_
      refine lv_iload_n hx hb d_M_agree_69 rfl (lv_at hl 2 rfl) ?_
      by_cases h8 : a1 < 0 ∨ 6 ≤ Int32.toNatClampNeg a1
      · have h0 := (if_pos h8).symm.trans hF; cases h0
      have hF := (if_neg h8).symm.trans hF
      refine va_lald hx hb hK hP 1 0 rfl rfl h8 d_M_agree_70 ?_
      obtain ⟨r9, e_r9, hF⟩ := Option.bind_eq_some_iff.mp hF
      refine vp_callSl (va_runS (As := [.long (j3.2.2.1 (Int32.toNatClampNeg a0)), .long (j3.2.1 (Int32.toNatClampNeg a1))]) (rest := []) ⟨hx, hb, hml, hown, hts⟩ (k_M_times l (j3.2.2.1 (Int32.toNatClampNeg a0)) (j3.2.1 (Int32.toNatClampNeg a1)) r9 e_r9) (va_cwS 2 hts (ga_S ww_590 ww_591 ww_4 ww_592) rfl rfl rfl (by decide +kernel) ⟨by decide, by decide⟩) (pcs_pre hN) rfl rfl hl.1 rfl (lv_room (Nat.le_of_ble_eq_true rfl)) d_M_agree_71 ⟨Nat.zero_le _, Nat.zero_le _⟩).run (fun z9 hz9 => ?_)
      obtain rfl : r9 = z9 := hz9.symm
      refine lv_lstore_n hx hb d_M_agree_74 rfl hl (by decide) (lv' := [(3, .long r9), (0, .ref (A 0)), (1, .int a0), (2, .int a1)]) rfl (fun ls hl => ?_)
      refine lv_lload_n hx hb d_M_agree_75 rfl (lv_at hl 0 rfl) ?_
      obtain ⟨r10, e_r10, hF⟩ := Option.bind_eq_some_iff.mp hF
      refine vp_callSl (va_runS (As := [.long r9]) (rest := []) ⟨hx, hb, hml, hown, hts⟩ (k_M_xOf l r9 r10 e_r10) (va_cwS 1 hts (ga_S ww_597 ww_598 ww_4 ww_599) rfl rfl rfl (by decide +kernel) ⟨by decide, by decide⟩) (pcs_pre hN) rfl rfl hl.1 rfl (lv_room (Nat.le_of_ble_eq_true rfl)) d_M_agree_76 ⟨Nat.zero_le _, Nat.zero_le _⟩).run (fun z9 hz9 => ?_)
      obtain rfl : r10 = z9 := hz9.symm
      refine lv_lload_n hx hb d_M_agree_79 rfl (lv_at hl 0 rfl) ?_
      obtain ⟨r11, e_r11, hF⟩ := Option.bind_eq_some_iff.mp hF
      refine vp_callSl (va_runS (As := [.long r9]) (rest := [.long r10]) ⟨hx, hb, hml, hown, hts⟩ (k_M_yOf l r9 r11 e_r11) (va_cwS 1 hts (ga_S ww_601 ww_602 ww_4 ww_603) rfl rfl rfl (by decide +kernel) ⟨by decide, by decide⟩) (pcs_pre hN) rfl rfl hl.1 rfl (lv_room (Nat.le_of_ble_eq_true rfl)) d_M_agree_80 ⟨Nat.zero_le _, Nat.zero_le _⟩).run (fun z9 hz9 => ?_)
      obtain rfl : r11 = z9 := hz9.symm
      obtain ⟨r12, e_r12, hF⟩ := Option.bind_eq_some_iff.mp hF
      refine vp_callSl (va_runS (As := [.long r10, .long r11]) (rest := []) ⟨hx, hb, hml, hown, hts⟩ (k_M_h l r10 r11 r12 e_r12) (va_cwS 2 hts (ga_S ww_674 ww_675 ww_4 ww_676) rfl rfl rfl (by decide +kernel) ⟨by decide, by decide⟩) (pcs_pre hN) rfl rfl hl.1 rfl (lv_room (Nat.le_of_ble_eq_true rfl)) d_M_agree_83 ⟨Nat.zero_le _, Nat.zero_le _⟩).run (fun z9 hz9 => ?_)
      obtain rfl : r12 = z9 := hz9.symm
      obtain rfl := Option.some.inj hF
      exact W.lret hx hb hr (fun t ht hW => ⟨⟨_, _, rfl, rfl, bw_end hP hK hD ht hW⟩, hS.F ht⟩) hS.2.2 d_M_agree_86
    · have hF := (if_neg h9).symm.trans hF
      refine lv_lconst (v := 0) hx hb d_M_agree_57 (by decide) ?_
      obtain rfl := Option.some.inj hF
      exact W.lret hx hb hr (fun t ht hW => ⟨⟨_, _, rfl, rfl, bw_end hP hK hD ht hW⟩, hS.F ht⟩) hS.2.2 d_M_agree_58
  clear hF
  have hF := q5
  refine lv_if_eq hx hb d_M_agree_5 (tgt := 15) (by decide) (fun h9 => ?_) (fun h9 => ?_)
  · have hF := (if_pos h9).symm.trans hF
    refine lv_iconst (v := 1) hx hb d_M_agree_15 (by decide) ?_
    refine lv_goto hx hb d_M_agree_16 (tgt := 47) (by decide) ?_
    cases Option.some.inj hF
    exact k4 _ _ ls hP hD hS (lv_sub hl [0, 1, 2] rfl)
  · have hF := (if_neg h9).symm.trans hF
    refine lv_iload_n hx hb d_M_agree_8 rfl (lv_at hl 2 rfl) ?_
    obtain ⟨r13, e_r13, hF⟩ := Option.bind_eq_some_iff.mp hF
    refine vp_callSi (va_runS (As := [.int a1]) (rest := [.ref (A 0)]) ⟨hx, hb, hml, hown, hts⟩ (k_M_isSlot l a1 r13 e_r13) (va_cwS 1 hts (ga_S ww_582 ww_583 ww_4 ww_584) rfl rfl rfl (by decide +kernel) ⟨by decide, by decide⟩) (pcs_pre hN) rfl rfl hl.1 rfl (lv_room (Nat.le_of_ble_eq_true rfl)) d_M_agree_9 ⟨Nat.zero_le _, Nat.zero_le _⟩).run (fun z9 hz9 => ?_)
    obtain rfl : r13 = z9 := hz9.symm
    refine lv_if_ne hx hb d_M_agree_12 (tgt := 19) (by decide) (fun h9 => ?_) (fun h9 => ?_)
    · have hF := (if_neg h9).symm.trans hF
      refine lv_aload_n hx hb d_M_agree_19 rfl (lv_at hl 0 rfl) ?_
      refine va_get (D := D) (ci := 3) (v := .ref (A 2)) (C := R_M) (T := T_M) (N := 13) hx hb hts in_M hown hK hP 0 rfl rfl 2 (by decide) (hw _ ww_536) (fun _ h9 => h9) rfl d_M_agree_20 ?_
      refine lv_iload_n hx hb d_M_agree_23 rfl (lv_at hl 1 rfl) ?_
      by_cases h14 : a0 < 0 ∨ 6 ≤ Int32.toNatClampNeg a0
      · have h0 := (if_pos h14).symm.trans hF; cases h0
      have hF := (if_neg h14).symm.trans hF
      refine va_lald hx hb hK hP 2 1 rfl rfl h14 d_M_agree_24 ?_
      refine lv_lconst (v := 0) hx hb d_M_agree_25 (by decide) ?_
      refine W.lcmp hx hb d_M_agree_26 ?_
      refine lv_if_ne hx hb d_M_agree_27 (tgt := 34) (by decide) (fun h9 => ?_) (fun h9 => ?_)
      · have hF := (if_neg h9).symm.trans hF
        refine lv_aload_n hx hb d_M_agree_34 rfl (lv_at hl 0 rfl) ?_
        refine lv_iload_n hx hb d_M_agree_35 rfl (lv_at hl 2 rfl) ?_
        obtain ⟨⟨r16, g15⟩, e_g15, hF⟩ := Option.bind_eq_some_iff.mp hF
        have hFc := va_free (wc := wM A cc g0) hD hS hA [0, 1, 2, 3, 4, 5, 6, 7, 8] rfl
        refine va_calli (va_runV (As := [.int a1]) (rest := [.ref (A 0)]) ⟨hx, hb, hml, hown, hts⟩ (k_M_full l D A cc g0 a1 _ (r16, g15) e_g15) (cwV 1 hts (ga_V ww_647 ww_649 wp_8 ww_4 ww_650) rfl rfl rfl (by decide +kernel) ⟨by decide, by decide⟩) (pw_pre (q0 := 0) (ci := 3) hP hK hD hN rfl rfl) rfl rfl hl.1 rfl (lv_room (Nat.le_of_ble_eq_true rfl)) d_M_agree_36 ⟨Nat.zero_le _, Nat.zero_le _⟩) hS (fun q _ h => hFc q h) hFc (fun r9 u9 t H locs ht hvm hp hB hz1 hk1 hS => ?_)
        obtain ⟨rfl, rfl⟩ := Prod.mk.inj hp.symm
        obtain ⟨hP, hD⟩ := bw_back hB ht hFc
        refine lv_if_ne hx hb d_M_agree_39 (tgt := 46) (by decide) (fun h9 => ?_) (fun h9 => ?_)
        · have hF := (if_neg h9).symm.trans hF
          refine lv_iconst (v := 0) hx hb d_M_agree_46 (by decide) ?_
          cases Option.some.inj hF
          exact k4 _ _ ls hP hD hS (lv_sub hl [0, 1, 2] rfl)
        · have hF := (if_pos h9).symm.trans hF
          refine lv_iconst (v := 3) hx hb d_M_agree_42 (by decide) ?_
          refine lv_goto hx hb d_M_agree_43 (tgt := 47) (by decide) ?_
          cases Option.some.inj hF
          exact k4 _ _ ls hP hD hS (lv_sub hl [0, 1, 2] rfl)
      · have hF := (if_pos h9).symm.trans hF
        refine lv_iconst (v := 2) hx hb d_M_agree_30 (by decide) ?_
        refine lv_goto hx hb d_M_agree_31 (tgt := 47) (by decide) ?_
        cases Option.some.inj hF
        exact k4 _ _ ls hP hD hS (lv_sub hl [0, 1, 2] rfl)
    · have hF := (if_pos h9).symm.trans hF
      refine lv_iconst (v := 1) hx hb d_M_agree_15 (by decide) ?_
      refine lv_goto hx hb d_M_agree_16 (tgt := 47) (by decide) ?_
      cases Option.some.inj hF
      exact k4 _ _ ls hP hD hS (lv_sub hl [0, 1, 2] rfl)
def f_M_layByte (g0 : sM) (a0 : Int32) : Option sM := if g0.2.2.2.2.2.2.2.2.2.2.2.1 < 0 ∨ 16 ≤ Int32.toNatClampNeg g0.2.2.2.2.2.2.2.2.2.2.2.1 then none else (some ((g0.1, g0.2.1, g0.2.2.1, g0.2.2.2.1, g0.2.2.2.2.1, g0.2.2.2.2.2.1, g0.2.2.2.2.2.2.1, g0.2.2.2.2.2.2.2.1, g0.2.2.2.2.2.2.2.2.1, g0.2.2.2.2.2.2.2.2.2.1, g0.2.2.2.2.2.2.2.2.2.2.1, (g0.2.2.2.2.2.2.2.2.2.2.2.1 + 1), (upd g0.2.2.2.2.2.2.2.2.2.2.2.2 (Int32.toNatClampNeg g0.2.2.2.2.2.2.2.2.2.2.2.1) a0))))
abbrev rm_M_layByte : Room := { frames := 0, cells := 0, slots := 0, locals := 0 }
set_option maxHeartbeats 4000000 in
set_option maxRecDepth 100000 in
theorem k_M_layByte (l : Launch) (D : va_G) (A : Nat → Nat) (cc : Nat → ClassId) (g0 : sM) (a0 : Int32) (sz : Nat) (res : sM) (hF : f_M_layByte g0 a0 = some res) : Met l y_M_layByte (Cond.code y_M_layByte b_M_layByte 2 none :: wa) rm_M_layByte (pw D (wM A cc g0) (kM cc) [.ref (A 0), .int a0] sz) (va_Qv (fun u => u = res) (bw D (wM A cc) (kM cc) (va_A (wM A cc g0) sz)) (va_A (wM A cc g0) sz)) 0 0 (va_A (wM A cc g0) sz) := by
  refine Met.ofW (cc := b_M_layByte) (maxL := 2) (ret := none) (by decide) rfl ?_
  intro p e s m args below meth c s₁ B hml hv
  obtain ⟨rfl, hsz, hP, hK, hD0, hN⟩ := hv
  have hx := B.exec
  have hb := B.bytes
  have hr := B.returns
  have hts := atoms_spec (ws := Cond.code y_M_layByte b_M_layByte 2 none :: wa) B.pre
  have hw : ∀ w ∈ wa, w.before _ s = true := fun w h => hts w (List.mem_cons_of_mem _ h)
  have hown : s.vm.findClass R_M = some m.cls := findClass_of_methodNamed B.named
  have hlocks := B.notSynchronized
  subst hsz
  have hD := hD0.self (sz := s.heap.size)
  generalize hAe : va_A (wM A cc g0) s.heap.size = AA at hD ⊢
  have hA : ∀ q : Nat, s.heap.size ≤ q → AA q := fun q h => by rw [← hAe]; exact Or.inr h
  have hS : va_S AA s.heap s.heap [] := va_S.rf
  have hl := lv_entry ([.ref (A 0), .int a0]) (n := 2) (Nat.le_of_ble_eq_true rfl)
  rw [lg_entry_eq]
  generalize (lg_sl ([.ref (A 0), .int a0]) ++ List.replicate (2 - (lg_sl ([.ref (A 0), .int a0])).length) Slot.unset).toArray = ls at hl ⊢
  have hl : lv_has ls 2 [(0, .ref (A 0)), (1, .int a0)] := hl
  unfold f_M_layByte at hF
  refine lv_aload_n hx hb d_M_layByte_0 rfl (lv_at hl 0 rfl) ?_
  refine va_get (D := D) (ci := 3) (v := .ref (A 8)) (C := R_M) (T := T_M) (N := 13) hx hb hts in_M hown hK hP 0 rfl rfl 12 (by decide) (hw _ ww_546) (fun _ h9 => h9) rfl d_M_layByte_1 ?_
  refine lv_aload_n hx hb d_M_layByte_4 rfl (lv_at hl 0 rfl) ?_
  refine va_get (D := D) (ci := 3) (v := .int g0.2.2.2.2.2.2.2.2.2.2.2.1) (C := R_M) (T := T_M) (N := 13) hx hb hts in_M hown hK hP 0 rfl rfl 11 (by decide) (hw _ ww_545) (fun _ h9 => h9) rfl d_M_layByte_5 ?_
  refine lv_iload_n hx hb d_M_layByte_8 rfl (lv_at hl 1 rfl) ?_
  by_cases h1 : g0.2.2.2.2.2.2.2.2.2.2.2.1 < 0 ∨ 16 ≤ Int32.toNatClampNeg g0.2.2.2.2.2.2.2.2.2.2.2.1
  · have h0 := (if_pos h1).symm.trans hF; cases h0
  have hF := (if_neg h1).symm.trans hF
  refine va_iast hx hb hK hP hD hS 8 7 rfl rfl h1 d_M_layByte_9 (fun H locs hP hD hS => ?_)
  have hP : va_P D vwC (wM A cc (g0.1, g0.2.1, g0.2.2.1, g0.2.2.2.1, g0.2.2.2.2.1, g0.2.2.2.2.2.1, g0.2.2.2.2.2.2.1, g0.2.2.2.2.2.2.2.1, g0.2.2.2.2.2.2.2.2.1, g0.2.2.2.2.2.2.2.2.2.1, g0.2.2.2.2.2.2.2.2.2.2.1, g0.2.2.2.2.2.2.2.2.2.2.2.1, (upd g0.2.2.2.2.2.2.2.2.2.2.2.2 (Int32.toNatClampNeg g0.2.2.2.2.2.2.2.2.2.2.2.1) a0))) H := hP
  have hD : va_D AA (wM A cc (g0.1, g0.2.1, g0.2.2.1, g0.2.2.2.1, g0.2.2.2.2.1, g0.2.2.2.2.2.1, g0.2.2.2.2.2.2.1, g0.2.2.2.2.2.2.2.1, g0.2.2.2.2.2.2.2.2.1, g0.2.2.2.2.2.2.2.2.2.1, g0.2.2.2.2.2.2.2.2.2.2.1, g0.2.2.2.2.2.2.2.2.2.2.2.1, (upd g0.2.2.2.2.2.2.2.2.2.2.2.2 (Int32.toNatClampNeg g0.2.2.2.2.2.2.2.2.2.2.2.1) a0))) := hD
  refine lv_aload_n hx hb d_M_layByte_10 rfl (lv_at hl 0 rfl) ?_
  refine lv_dup hx hb d_M_layByte_11 rfl ?_
  refine va_get (D := D) (ci := 3) (v := .int g0.2.2.2.2.2.2.2.2.2.2.2.1) (C := R_M) (T := T_M) (N := 13) hx hb hts in_M hown hK hP 0 rfl rfl 11 (by decide) (hw _ ww_545) (fun _ h9 => h9) rfl d_M_layByte_12 ?_
  refine lv_iconst (v := 1) hx hb d_M_layByte_15 (by decide) ?_
  refine lv_iadd hx hb d_M_layByte_16 ?_
  refine va_put (D := D) (ci := 3) (v := .int (g0.2.2.2.2.2.2.2.2.2.2.2.1 + 1)) (ty := .int) (C := R_M) (T := T_M) (N := 13) hx hb hts in_M ft_M ft_M_ok fn_M hown hK hP hD hS 0 rfl rfl 11 (by decide) (hw _ ww_545) (fun _ h9 => h9) rfl (by decide +kernel) rfl rfl (Nat.le_of_ble_eq_true rfl) d_M_layByte_17 (fun H locs hP hD hS => ?_)
  have hP : va_P D vwC (wM A cc (g0.1, g0.2.1, g0.2.2.1, g0.2.2.2.1, g0.2.2.2.2.1, g0.2.2.2.2.2.1, g0.2.2.2.2.2.2.1, g0.2.2.2.2.2.2.2.1, g0.2.2.2.2.2.2.2.2.1, g0.2.2.2.2.2.2.2.2.2.1, g0.2.2.2.2.2.2.2.2.2.2.1, (g0.2.2.2.2.2.2.2.2.2.2.2.1 + 1), (upd g0.2.2.2.2.2.2.2.2.2.2.2.2 (Int32.toNatClampNeg g0.2.2.2.2.2.2.2.2.2.2.2.1) a0))) H := hP
  have hD : va_D AA (wM A cc (g0.1, g0.2.1, g0.2.2.1, g0.2.2.2.1, g0.2.2.2.2.1, g0.2.2.2.2.2.1, g0.2.2.2.2.2.2.1, g0.2.2.2.2.2.2.2.1, g0.2.2.2.2.2.2.2.2.1, g0.2.2.2.2.2.2.2.2.2.1, g0.2.2.2.2.2.2.2.2.2.2.1, (g0.2.2.2.2.2.2.2.2.2.2.2.1 + 1), (upd g0.2.2.2.2.2.2.2.2.2.2.2.2 (Int32.toNatClampNeg g0.2.2.2.2.2.2.2.2.2.2.2.1) a0))) := hD
  obtain rfl := Option.some.inj hF
  exact W.vret hx hb hr (fun t ht hW => ⟨⟨_, rfl, rfl, bw_end hP hK hD ht hW⟩, hS.F ht⟩) hS.2.2 d_M_layByte_20
def f_M_layNumber_20 (a0 : Int32) : Nat → sM → Int32 → Option (sM × Int32)
  | 0, _, _ => none
  | n + 1, g7, u6 => if u6 < 0 then (some (g7, u6)) else (Option.bind (f_M_layByte g7 ((a0 >>> ((8 * u6) &&& 31)) &&& 255)) (fun g14 => Option.bind (some (u6 + (-1))) (fun v15 => f_M_layNumber_20 a0 n g14 v15)))
def f_M_layNumber (g0 : sM) (a0 : Int32) : Option sM := Option.bind (f_M_layByte g0 2) (fun g1 => Option.bind (f_M_bytesOf a0) (fun r2 => Option.bind (f_M_layByte g1 r2) (fun g3 => Option.bind (f_M_bytesOf a0) (fun r4 => Option.bind (some (r4 - 1)) (fun v5 => Option.bind (f_M_layNumber_20 a0 64 g3 v5) (fun t17 => match t17 with | (o9, o10) => (some (o9))))))))
abbrev rm_M_layNumber : Room := { frames := 1, cells := 0, slots := 0, locals := 21 }
set_option maxHeartbeats 4000000 in
set_option maxRecDepth 100000 in
theorem k_M_layNumber (l : Launch) (D : va_G) (A : Nat → Nat) (cc : Nat → ClassId) (g0 : sM) (a0 : Int32) (sz : Nat) (res : sM) (hF : f_M_layNumber g0 a0 = some res) : Met l y_M_layNumber (Cond.code y_M_layNumber b_M_layNumber 3 none :: wa) rm_M_layNumber (pw D (wM A cc g0) (kM cc) [.ref (A 0), .int a0] sz) (va_Qv (fun u => u = res) (bw D (wM A cc) (kM cc) (va_A (wM A cc g0) sz)) (va_A (wM A cc g0) sz)) 0 0 (va_A (wM A cc g0) sz) := by
  refine Met.ofW (cc := b_M_layNumber) (maxL := 3) (ret := none) (by decide) rfl ?_
  intro p e s m args below meth c s₁ B hml hv
  obtain ⟨rfl, hsz, hP, hK, hD0, hN⟩ := hv
  have hx := B.exec
  have hb := B.bytes
  have hr := B.returns
  have hts := atoms_spec (ws := Cond.code y_M_layNumber b_M_layNumber 3 none :: wa) B.pre
  have hw : ∀ w ∈ wa, w.before _ s = true := fun w h => hts w (List.mem_cons_of_mem _ h)
  have hown : s.vm.findClass R_M = some m.cls := findClass_of_methodNamed B.named
  have hlocks := B.notSynchronized
  subst hsz
  have hD := hD0.self (sz := s.heap.size)
  generalize hAe : va_A (wM A cc g0) s.heap.size = AA at hD ⊢
  have hA : ∀ q : Nat, s.heap.size ≤ q → AA q := fun q h => by rw [← hAe]; exact Or.inr h
  have hS : va_S AA s.heap s.heap [] := va_S.rf
  have hl := lv_entry ([.ref (A 0), .int a0]) (n := 3) (Nat.le_of_ble_eq_true rfl)
  rw [lg_entry_eq]
  generalize (lg_sl ([.ref (A 0), .int a0]) ++ List.replicate (3 - (lg_sl ([.ref (A 0), .int a0])).length) Slot.unset).toArray = ls at hl ⊢
  have hl : lv_has ls 3 [(0, .ref (A 0)), (1, .int a0)] := hl
  unfold f_M_layNumber at hF
  refine lv_aload_n hx hb d_M_layNumber_0 rfl (lv_at hl 0 rfl) ?_
  refine lv_iconst (v := 2) hx hb d_M_layNumber_1 (by decide) ?_
  obtain ⟨g1, e_g1, hF⟩ := Option.bind_eq_some_iff.mp hF
  have hFc := va_free (wc := wM A cc g0) hD hS hA [0, 1, 2, 3, 4, 5, 6, 7, 8] rfl
  refine va_callv (va_runV (As := [.int 2]) (rest := []) ⟨hx, hb, hml, hown, hts⟩ (k_M_layByte l D A cc g0 2 _ g1 e_g1) (cwV 1 hts (ga_V ww_734 ww_736 wp_12 ww_4 ww_737) rfl rfl rfl (by decide +kernel) ⟨by decide, by decide⟩) (pw_pre (q0 := 0) (ci := 3) hP hK hD hN rfl rfl) rfl rfl hl.1 rfl (lv_room (Nat.le_of_ble_eq_true rfl)) d_M_layNumber_2 ⟨Nat.zero_le _, Nat.zero_le _⟩) hS (fun q _ h => hFc q h) hFc (fun u9 t H locs ht hvm hp hB hz1 hk1 hS => ?_)
  obtain rfl : g1 = u9 := hp.symm
  obtain ⟨hP, hD⟩ := bw_back hB ht hFc
  refine lv_aload_n hx hb d_M_layNumber_5 rfl (lv_at hl 0 rfl) ?_
  refine lv_iload_n hx hb d_M_layNumber_6 rfl (lv_at hl 1 rfl) ?_
  obtain ⟨r2, e_r2, hF⟩ := Option.bind_eq_some_iff.mp hF
  refine vp_callSi (va_runS (As := [.int a0]) (rest := [.ref (A 0)]) ⟨hx, hb, hml, hown, hts⟩ (k_M_bytesOf l a0 r2 e_r2) (va_cwS 1 hts (ga_S ww_738 ww_739 ww_4 ww_740) rfl rfl rfl (by decide +kernel) ⟨by decide, by decide⟩) (pcs_pre hN) rfl rfl hl.1 rfl (lv_room (Nat.le_of_ble_eq_true rfl)) d_M_layNumber_7 ⟨Nat.zero_le _, Nat.zero_le _⟩).run (fun z9 hz9 => ?_)
  obtain rfl : r2 = z9 := hz9.symm
  obtain ⟨g3, e_g3, hF⟩ := Option.bind_eq_some_iff.mp hF
  have hFc := va_free (wc := wM A cc g1) hD hS hA [0, 1, 2, 3, 4, 5, 6, 7, 8] rfl
  refine va_callv (va_runV (As := [.int r2]) (rest := []) ⟨hx, hb, hml, hown, hts⟩ (k_M_layByte l D A cc g1 r2 _ g3 e_g3) (cwV 1 hts (ga_V ww_734 ww_736 wp_12 ww_4 ww_737) rfl rfl rfl (by decide +kernel) ⟨by decide, by decide⟩) (pw_pre (q0 := 0) (ci := 3) hP hK hD hN rfl rfl) rfl rfl hl.1 rfl (lv_room (Nat.le_of_ble_eq_true rfl)) d_M_layNumber_10 ⟨Nat.zero_le _, Nat.zero_le _⟩) hS (fun q _ h => hFc q h) hFc (fun u9 t H locs ht hvm hp hB hz1 hk1 hS => ?_)
  obtain rfl : g3 = u9 := hp.symm
  obtain ⟨hP, hD⟩ := bw_back hB ht hFc
  refine lv_iload_n hx hb d_M_layNumber_13 rfl (lv_at hl 1 rfl) ?_
  obtain ⟨r4, e_r4, hF⟩ := Option.bind_eq_some_iff.mp hF
  refine vp_callSi (va_runS (As := [.int a0]) (rest := []) ⟨hx, hb, hml, hown, hts⟩ (k_M_bytesOf l a0 r4 e_r4) (va_cwS 1 hts (ga_S ww_738 ww_739 ww_4 ww_740) rfl rfl rfl (by decide +kernel) ⟨by decide, by decide⟩) (pcs_pre hN) rfl rfl hl.1 rfl (lv_room (Nat.le_of_ble_eq_true rfl)) d_M_layNumber_14 ⟨Nat.zero_le _, Nat.zero_le _⟩).run (fun z9 hz9 => ?_)
  obtain rfl : r4 = z9 := hz9.symm
  refine lv_iconst (v := 1) hx hb d_M_layNumber_17 (by decide) ?_
  refine lv_isub hx hb d_M_layNumber_18 ?_
  obtain ⟨v5, e_v5, hF⟩ := Option.bind_eq_some_iff.mp hF
  refine nm_i (Option.some.inj e_v5) ?_
  refine lv_istore_n hx hb d_M_layNumber_19 rfl hl (by decide) (lv' := [(2, .int v5), (0, .ref (A 0)), (1, .int a0)]) rfl (fun ls hl => ?_)
  obtain ⟨⟨o9, o10⟩, q16, hF⟩ := Option.bind_eq_some_iff.mp hF
  have k11 : ∀ (H : Heap) (locs : List Loc) (ls : Array Slot), va_P D vwC (wM A cc o9) H → va_D AA (wM A cc o9) → va_S AA s.heap H locs → lv_has ls 3 [(2, .int o10), (0, .ref (A 0)), (1, .int a0)] → W p l e rm_M_layNumber s m ([Value.ref (A 0), Value.int a0] : List Value).toArray below meth c H locs 0 0 (MQ below (va_Qv (fun u => u = res) (bw D (wM A cc) (kM cc) AA) AA) ([Value.ref (A 0), Value.int a0] : List Value).toArray s 0 0 AA) (F0 m 44 ls []) := by
    intro H locs ls hP hD hS hl
    obtain rfl := Option.some.inj hF
    exact W.vret hx hb hr (fun t ht hW => ⟨⟨_, rfl, rfl, bw_end hP hK hD ht hW⟩, hS.F ht⟩) hS.2.2 d_M_layNumber_44
  clear hF
  have k8 : ∀ (n : Nat) (g7 : sM) (u6 : Int32) (H : Heap) (locs : List Loc) (ls : Array Slot), va_P D vwC (wM A cc g7) H → va_D AA (wM A cc g7) → va_S AA s.heap H locs → lv_has ls 3 [(2, .int u6), (0, .ref (A 0)), (1, .int a0)] → f_M_layNumber_20 a0 n g7 u6 = some (o9, o10) → W p l e rm_M_layNumber s m ([Value.ref (A 0), Value.int a0] : List Value).toArray below meth c H locs 0 0 (MQ below (va_Qv (fun u => u = res) (bw D (wM A cc) (kM cc) AA) AA) ([Value.ref (A 0), Value.int a0] : List Value).toArray s 0 0 AA) (F0 m 20 ls []) := by
    intro n
    induction n with
    | zero => intro g7 u6 H locs ls hP hD hS hl hF; cases hF
    | succ n ih =>
      intro g7 u6 H locs ls hP hD hS hl hF
      rw [f_M_layNumber_20] at hF
      refine lv_iload_n hx hb d_M_layNumber_20 rfl (lv_at hl 0 rfl) ?_
      refine lv_if_lt hx hb d_M_layNumber_21 (tgt := 44) (by decide) (fun h9 => ?_) (fun h9 => ?_)
      · have hF := (if_pos h9).symm.trans hF
        cases Option.some.inj hF
        exact k11 _ _ ls hP hD hS (lv_sub hl [0, 1, 2] rfl)
      · have hF := (if_neg h9).symm.trans hF
        refine lv_aload_n hx hb d_M_layNumber_24 rfl (lv_at hl 1 rfl) ?_
        refine lv_iload_n hx hb d_M_layNumber_25 rfl (lv_at hl 2 rfl) ?_
        refine lv_bipush (v := 8) hx hb d_M_layNumber_26 (by decide) ?_
        refine lv_iload_n hx hb d_M_layNumber_28 rfl (lv_at hl 0 rfl) ?_
        refine lv_imul hx hb d_M_layNumber_29 ?_
        refine lv_ishr hx hb d_M_layNumber_30 ?_
        refine lv_sipush (v := 255) hx hb d_M_layNumber_31 (by decide) ?_
        refine lv_iand hx hb d_M_layNumber_34 ?_
        obtain ⟨g14, e_g14, hF⟩ := Option.bind_eq_some_iff.mp hF
        have hFc := va_free (wc := wM A cc g7) hD hS hA [0, 1, 2, 3, 4, 5, 6, 7, 8] rfl
        refine va_callv (va_runV (As := [.int ((a0 >>> ((8 * u6) &&& 31)) &&& 255)]) (rest := []) ⟨hx, hb, hml, hown, hts⟩ (k_M_layByte l D A cc g7 ((a0 >>> ((8 * u6) &&& 31)) &&& 255) _ g14 e_g14) (cwV 1 hts (ga_V ww_734 ww_736 wp_12 ww_4 ww_737) rfl rfl rfl (by decide +kernel) ⟨by decide, by decide⟩) (pw_pre (q0 := 0) (ci := 3) hP hK hD hN rfl rfl) rfl rfl hl.1 rfl (lv_room (Nat.le_of_ble_eq_true rfl)) d_M_layNumber_35 ⟨Nat.zero_le _, Nat.zero_le _⟩) hS (fun q _ h => hFc q h) hFc (fun u9 t H locs ht hvm hp hB hz1 hk1 hS => ?_)
        obtain rfl : g14 = u9 := hp.symm
        obtain ⟨hP, hD⟩ := bw_back hB ht hFc
        obtain ⟨v15, e_v15, hF⟩ := Option.bind_eq_some_iff.mp hF
        refine lv_iinc hx hb d_M_layNumber_38 hl (k := 0) (v := v15) rfl ((show _ = u6 + (-1) from rfl).trans (Option.some.inj e_v15)) (by decide) (lv' := [(2, .int v15), (0, .ref (A 0)), (1, .int a0)]) rfl (fun ls hl => ?_)
        refine lv_goto hx hb d_M_layNumber_41 (tgt := 20) (by decide) ?_
        exact ih g14 v15 _ _ ls hP hD hS (lv_sub hl [0, 1, 2] rfl) hF
  exact k8 64 g3 v5 _ _ ls hP hD hS (lv_sub hl [0, 1, 2] rfl) q16
def f_M_layForm (g0 : sM) (a0 : Int32) (a1 : Int32) : Option sM := Option.bind (f_M_layByte (g0.1, g0.2.1, g0.2.2.1, g0.2.2.2.1, g0.2.2.2.2.1, g0.2.2.2.2.2.1, g0.2.2.2.2.2.2.1, g0.2.2.2.2.2.2.2.1, g0.2.2.2.2.2.2.2.2.1, g0.2.2.2.2.2.2.2.2.2.1, g0.2.2.2.2.2.2.2.2.2.2.1, 0, g0.2.2.2.2.2.2.2.2.2.2.2.2) 48) (fun g1 => Option.bind (f_M_bytesOf a0) (fun r2 => Option.bind (f_M_bytesOf a1) (fun r3 => Option.bind (f_M_layByte g1 ((4 + r2) + r3)) (fun g4 => Option.bind (f_M_layNumber g4 a0) (fun g5 => Option.bind (f_M_layNumber g5 a1) (fun g6 => some (g6)))))))
abbrev rm_M_layForm : Room := { frames := 2, cells := 0, slots := 0, locals := 43 }
set_option maxHeartbeats 4000000 in
set_option maxRecDepth 100000 in
theorem k_M_layForm (l : Launch) (D : va_G) (A : Nat → Nat) (cc : Nat → ClassId) (g0 : sM) (a0 : Int32) (a1 : Int32) (sz : Nat) (res : sM) (hF : f_M_layForm g0 a0 a1 = some res) : Met l y_M_layForm (Cond.code y_M_layForm b_M_layForm 3 none :: wa) rm_M_layForm (pw D (wM A cc g0) (kM cc) [.ref (A 0), .int a0, .int a1] sz) (va_Qv (fun u => u = res) (bw D (wM A cc) (kM cc) (va_A (wM A cc g0) sz)) (va_A (wM A cc g0) sz)) 0 0 (va_A (wM A cc g0) sz) := by
  refine Met.ofW (cc := b_M_layForm) (maxL := 3) (ret := none) (by decide) rfl ?_
  intro p e s m args below meth c s₁ B hml hv
  obtain ⟨rfl, hsz, hP, hK, hD0, hN⟩ := hv
  have hx := B.exec
  have hb := B.bytes
  have hr := B.returns
  have hts := atoms_spec (ws := Cond.code y_M_layForm b_M_layForm 3 none :: wa) B.pre
  have hw : ∀ w ∈ wa, w.before _ s = true := fun w h => hts w (List.mem_cons_of_mem _ h)
  have hown : s.vm.findClass R_M = some m.cls := findClass_of_methodNamed B.named
  have hlocks := B.notSynchronized
  subst hsz
  have hD := hD0.self (sz := s.heap.size)
  generalize hAe : va_A (wM A cc g0) s.heap.size = AA at hD ⊢
  have hA : ∀ q : Nat, s.heap.size ≤ q → AA q := fun q h => by rw [← hAe]; exact Or.inr h
  have hS : va_S AA s.heap s.heap [] := va_S.rf
  have hl := lv_entry ([.ref (A 0), .int a0, .int a1]) (n := 3) (Nat.le_of_ble_eq_true rfl)
  rw [lg_entry_eq]
  generalize (lg_sl ([.ref (A 0), .int a0, .int a1]) ++ List.replicate (3 - (lg_sl ([.ref (A 0), .int a0, .int a1])).length) Slot.unset).toArray = ls at hl ⊢
  have hl : lv_has ls 3 [(0, .ref (A 0)), (1, .int a0), (2, .int a1)] := hl
  unfold f_M_layForm at hF
  refine lv_aload_n hx hb d_M_layForm_0 rfl (lv_at hl 0 rfl) ?_
  refine lv_iconst (v := 0) hx hb d_M_layForm_1 (by decide) ?_
  refine va_put (D := D) (ci := 3) (v := .int 0) (ty := .int) (C := R_M) (T := T_M) (N := 13) hx hb hts in_M ft_M ft_M_ok fn_M hown hK hP hD hS 0 rfl rfl 11 (by decide) (hw _ ww_545) (fun _ h9 => h9) rfl (by decide +kernel) rfl rfl (Nat.le_of_ble_eq_true rfl) d_M_layForm_2 (fun H locs hP hD hS => ?_)
  have hP : va_P D vwC (wM A cc (g0.1, g0.2.1, g0.2.2.1, g0.2.2.2.1, g0.2.2.2.2.1, g0.2.2.2.2.2.1, g0.2.2.2.2.2.2.1, g0.2.2.2.2.2.2.2.1, g0.2.2.2.2.2.2.2.2.1, g0.2.2.2.2.2.2.2.2.2.1, g0.2.2.2.2.2.2.2.2.2.2.1, 0, g0.2.2.2.2.2.2.2.2.2.2.2.2)) H := hP
  have hD : va_D AA (wM A cc (g0.1, g0.2.1, g0.2.2.1, g0.2.2.2.1, g0.2.2.2.2.1, g0.2.2.2.2.2.1, g0.2.2.2.2.2.2.1, g0.2.2.2.2.2.2.2.1, g0.2.2.2.2.2.2.2.2.1, g0.2.2.2.2.2.2.2.2.2.1, g0.2.2.2.2.2.2.2.2.2.2.1, 0, g0.2.2.2.2.2.2.2.2.2.2.2.2)) := hD
  refine lv_aload_n hx hb d_M_layForm_5 rfl (lv_at hl 0 rfl) ?_
  refine lv_bipush (v := 48) hx hb d_M_layForm_6 (by decide) ?_
  obtain ⟨g1, e_g1, hF⟩ := Option.bind_eq_some_iff.mp hF
  have hFc := va_free (wc := wM A cc (g0.1, g0.2.1, g0.2.2.1, g0.2.2.2.1, g0.2.2.2.2.1, g0.2.2.2.2.2.1, g0.2.2.2.2.2.2.1, g0.2.2.2.2.2.2.2.1, g0.2.2.2.2.2.2.2.2.1, g0.2.2.2.2.2.2.2.2.2.1, g0.2.2.2.2.2.2.2.2.2.2.1, 0, g0.2.2.2.2.2.2.2.2.2.2.2.2)) hD hS hA [0, 1, 2, 3, 4, 5, 6, 7, 8] rfl
  refine va_callv (va_runV (As := [.int 48]) (rest := []) ⟨hx, hb, hml, hown, hts⟩ (k_M_layByte l D A cc (g0.1, g0.2.1, g0.2.2.1, g0.2.2.2.1, g0.2.2.2.2.1, g0.2.2.2.2.2.1, g0.2.2.2.2.2.2.1, g0.2.2.2.2.2.2.2.1, g0.2.2.2.2.2.2.2.2.1, g0.2.2.2.2.2.2.2.2.2.1, g0.2.2.2.2.2.2.2.2.2.2.1, 0, g0.2.2.2.2.2.2.2.2.2.2.2.2) 48 _ g1 e_g1) (cwV 1 hts (ga_V ww_734 ww_736 wp_12 ww_4 ww_737) rfl rfl rfl (by decide +kernel) ⟨by decide, by decide⟩) (pw_pre (q0 := 0) (ci := 3) hP hK hD hN rfl rfl) rfl rfl hl.1 rfl (lv_room (Nat.le_of_ble_eq_true rfl)) d_M_layForm_8 ⟨Nat.zero_le _, Nat.zero_le _⟩) hS (fun q _ h => hFc q h) hFc (fun u9 t H locs ht hvm hp hB hz1 hk1 hS => ?_)
  obtain rfl : g1 = u9 := hp.symm
  obtain ⟨hP, hD⟩ := bw_back hB ht hFc
  refine lv_aload_n hx hb d_M_layForm_11 rfl (lv_at hl 0 rfl) ?_
  refine lv_iconst (v := 4) hx hb d_M_layForm_12 (by decide) ?_
  refine lv_iload_n hx hb d_M_layForm_13 rfl (lv_at hl 1 rfl) ?_
  obtain ⟨r2, e_r2, hF⟩ := Option.bind_eq_some_iff.mp hF
  refine vp_callSi (va_runS (As := [.int a0]) (rest := [.int 4, .ref (A 0)]) ⟨hx, hb, hml, hown, hts⟩ (k_M_bytesOf l a0 r2 e_r2) (va_cwS 1 hts (ga_S ww_738 ww_739 ww_4 ww_740) rfl rfl rfl (by decide +kernel) ⟨by decide, by decide⟩) (pcs_pre hN) rfl rfl hl.1 rfl (lv_room (Nat.le_of_ble_eq_true rfl)) d_M_layForm_14 ⟨Nat.zero_le _, Nat.zero_le _⟩).run (fun z9 hz9 => ?_)
  obtain rfl : r2 = z9 := hz9.symm
  refine lv_iadd hx hb d_M_layForm_17 ?_
  refine lv_iload_n hx hb d_M_layForm_18 rfl (lv_at hl 2 rfl) ?_
  obtain ⟨r3, e_r3, hF⟩ := Option.bind_eq_some_iff.mp hF
  refine vp_callSi (va_runS (As := [.int a1]) (rest := [.int (4 + r2), .ref (A 0)]) ⟨hx, hb, hml, hown, hts⟩ (k_M_bytesOf l a1 r3 e_r3) (va_cwS 1 hts (ga_S ww_738 ww_739 ww_4 ww_740) rfl rfl rfl (by decide +kernel) ⟨by decide, by decide⟩) (pcs_pre hN) rfl rfl hl.1 rfl (lv_room (Nat.le_of_ble_eq_true rfl)) d_M_layForm_19 ⟨Nat.zero_le _, Nat.zero_le _⟩).run (fun z9 hz9 => ?_)
  obtain rfl : r3 = z9 := hz9.symm
  refine lv_iadd hx hb d_M_layForm_22 ?_
  obtain ⟨g4, e_g4, hF⟩ := Option.bind_eq_some_iff.mp hF
  have hFc := va_free (wc := wM A cc g1) hD hS hA [0, 1, 2, 3, 4, 5, 6, 7, 8] rfl
  refine va_callv (va_runV (As := [.int ((4 + r2) + r3)]) (rest := []) ⟨hx, hb, hml, hown, hts⟩ (k_M_layByte l D A cc g1 ((4 + r2) + r3) _ g4 e_g4) (cwV 1 hts (ga_V ww_734 ww_736 wp_12 ww_4 ww_737) rfl rfl rfl (by decide +kernel) ⟨by decide, by decide⟩) (pw_pre (q0 := 0) (ci := 3) hP hK hD hN rfl rfl) rfl rfl hl.1 rfl (lv_room (Nat.le_of_ble_eq_true rfl)) d_M_layForm_23 ⟨Nat.zero_le _, Nat.zero_le _⟩) hS (fun q _ h => hFc q h) hFc (fun u9 t H locs ht hvm hp hB hz1 hk1 hS => ?_)
  obtain rfl : g4 = u9 := hp.symm
  obtain ⟨hP, hD⟩ := bw_back hB ht hFc
  refine lv_aload_n hx hb d_M_layForm_26 rfl (lv_at hl 0 rfl) ?_
  refine lv_iload_n hx hb d_M_layForm_27 rfl (lv_at hl 1 rfl) ?_
  obtain ⟨g5, e_g5, hF⟩ := Option.bind_eq_some_iff.mp hF
  have hFc := va_free (wc := wM A cc g4) hD hS hA [0, 1, 2, 3, 4, 5, 6, 7, 8] rfl
  refine va_callv (va_runV (As := [.int a0]) (rest := []) ⟨hx, hb, hml, hown, hts⟩ (k_M_layNumber l D A cc g4 a0 _ g5 e_g5) (cwV 1 hts (ga_V ww_743 ww_745 wp_13 ww_4 ww_746) rfl rfl rfl (by decide +kernel) ⟨by decide, by decide⟩) (pw_pre (q0 := 0) (ci := 3) hP hK hD hN rfl rfl) rfl rfl hl.1 rfl (lv_room (Nat.le_of_ble_eq_true rfl)) d_M_layForm_28 ⟨Nat.zero_le _, Nat.zero_le _⟩) hS (fun q _ h => hFc q h) hFc (fun u9 t H locs ht hvm hp hB hz1 hk1 hS => ?_)
  obtain rfl : g5 = u9 := hp.symm
  obtain ⟨hP, hD⟩ := bw_back hB ht hFc
  refine lv_aload_n hx hb d_M_layForm_31 rfl (lv_at hl 0 rfl) ?_
  refine lv_iload_n hx hb d_M_layForm_32 rfl (lv_at hl 2 rfl) ?_
  obtain ⟨g6, e_g6, hF⟩ := Option.bind_eq_some_iff.mp hF
  have hFc := va_free (wc := wM A cc g5) hD hS hA [0, 1, 2, 3, 4, 5, 6, 7, 8] rfl
  refine va_callv (va_runV (As := [.int a1]) (rest := []) ⟨hx, hb, hml, hown, hts⟩ (k_M_layNumber l D A cc g5 a1 _ g6 e_g6) (cwV 1 hts (ga_V ww_743 ww_745 wp_13 ww_4 ww_746) rfl rfl rfl (by decide +kernel) ⟨by decide, by decide⟩) (pw_pre (q0 := 0) (ci := 3) hP hK hD hN rfl rfl) rfl rfl hl.1 rfl (lv_room (Nat.le_of_ble_eq_true rfl)) d_M_layForm_33 ⟨Nat.zero_le _, Nat.zero_le _⟩) hS (fun q _ h => hFc q h) hFc (fun u9 t H locs ht hvm hp hB hz1 hk1 hS => ?_)
  obtain rfl : g6 = u9 := hp.symm
  obtain ⟨hP, hD⟩ := bw_back hB ht hFc
  obtain rfl := Option.some.inj hF
  exact W.vret hx hb hr (fun t ht hW => ⟨⟨_, rfl, rfl, bw_end hP hK hD ht hW⟩, hS.F ht⟩) hS.2.2 d_M_layForm_36
def f_M_written (g0 : sM) (a0 : Int32) (a1 : Int32) (a2 : Int32) : Option (Int32 × sM) := Option.bind (if a0 < 0 then (some (1) : Option (Int32)) else (if 0 ≤ a1 then (some (0)) else (some (1)))) (fun j1 => Option.bind (if j1 = 0 then (Option.bind (f_M_layForm (j1, g0.2.1, g0.2.2.1, g0.2.2.2.1, g0.2.2.2.2.1, g0.2.2.2.2.2.1, g0.2.2.2.2.2.2.1, g0.2.2.2.2.2.2.2.1, g0.2.2.2.2.2.2.2.2.1, g0.2.2.2.2.2.2.2.2.2.1, g0.2.2.2.2.2.2.2.2.2.2.1, g0.2.2.2.2.2.2.2.2.2.2.2.1, g0.2.2.2.2.2.2.2.2.2.2.2.2) a0 a1) (fun g14 => Option.bind (if a2 < (-1) then (some (1) : Option (Int32)) else (if a2 < g14.2.2.2.2.2.2.2.2.2.2.2.1 then (some (0)) else (some (1)))) (fun j15 => some ((j15, g14.2.1, g14.2.2.1, g14.2.2.2.1, g14.2.2.2.2.1, g14.2.2.2.2.2.1, g14.2.2.2.2.2.2.1, g14.2.2.2.2.2.2.2.1, g14.2.2.2.2.2.2.2.2.1, g14.2.2.2.2.2.2.2.2.2.1, g14.2.2.2.2.2.2.2.2.2.2.1, g14.2.2.2.2.2.2.2.2.2.2.2.1, g14.2.2.2.2.2.2.2.2.2.2.2.2)))) : Option (sM)) else (some ((j1, g0.2.1, g0.2.2.1, g0.2.2.2.1, g0.2.2.2.2.1, g0.2.2.2.2.2.1, g0.2.2.2.2.2.2.1, g0.2.2.2.2.2.2.2.1, g0.2.2.2.2.2.2.2.2.1, g0.2.2.2.2.2.2.2.2.2.1, g0.2.2.2.2.2.2.2.2.2.2.1, g0.2.2.2.2.2.2.2.2.2.2.2.1, g0.2.2.2.2.2.2.2.2.2.2.2.2)))) (fun j5 => Option.bind (if j5.1 = 0 then (if 0 ≤ a2 then (if a2 < 0 ∨ 16 ≤ Int32.toNatClampNeg a2 then none else (some (j5.2.2.2.2.2.2.2.2.2.2.2.2 (Int32.toNatClampNeg a2)))) else (some (j5.2.2.2.2.2.2.2.2.2.2.2.1)) : Option (Int32)) else (some (0))) (fun j9 => some (j9, j5))))
abbrev rm_M_written : Room := { frames := 3, cells := 0, slots := 0, locals := 65 }
set_option maxHeartbeats 4000000 in
set_option maxRecDepth 100000 in
theorem k_M_written (l : Launch) (D : va_G) (A : Nat → Nat) (cc : Nat → ClassId) (g0 : sM) (a0 : Int32) (a1 : Int32) (a2 : Int32) (sz : Nat) (res : (Int32 × sM)) (hF : f_M_written g0 a0 a1 a2 = some res) : Met l y_M_written (Cond.code y_M_written b_M_written 4 (some .int) :: wa) rm_M_written (pw D (wM A cc g0) (kM cc) [.ref (A 0), .int a0, .int a1, .int a2] sz) (va_Qi (fun r u => (r, u) = res) (bw D (wM A cc) (kM cc) (va_A (wM A cc g0) sz)) (va_A (wM A cc g0) sz)) 0 0 (va_A (wM A cc g0) sz) := by
  refine Met.ofW (cc := b_M_written) (maxL := 4) (ret := (some .int)) (by decide) rfl ?_
  intro p e s m args below meth c s₁ B hml hv
  obtain ⟨rfl, hsz, hP, hK, hD0, hN⟩ := hv
  have hx := B.exec
  have hb := B.bytes
  have hr := B.returns
  have hts := atoms_spec (ws := Cond.code y_M_written b_M_written 4 (some .int) :: wa) B.pre
  have hw : ∀ w ∈ wa, w.before _ s = true := fun w h => hts w (List.mem_cons_of_mem _ h)
  have hown : s.vm.findClass R_M = some m.cls := findClass_of_methodNamed B.named
  have hlocks := B.notSynchronized
  subst hsz
  have hD := hD0.self (sz := s.heap.size)
  generalize hAe : va_A (wM A cc g0) s.heap.size = AA at hD ⊢
  have hA : ∀ q : Nat, s.heap.size ≤ q → AA q := fun q h => by rw [← hAe]; exact Or.inr h
  have hS : va_S AA s.heap s.heap [] := va_S.rf
  have hl := lv_entry ([.ref (A 0), .int a0, .int a1, .int a2]) (n := 4) (Nat.le_of_ble_eq_true rfl)
  rw [lg_entry_eq]
  generalize (lg_sl ([.ref (A 0), .int a0, .int a1, .int a2]) ++ List.replicate (4 - (lg_sl ([.ref (A 0), .int a0, .int a1, .int a2])).length) Slot.unset).toArray = ls at hl ⊢
  have hl : lv_has ls 4 [(0, .ref (A 0)), (1, .int a0), (2, .int a1), (3, .int a2)] := hl
  unfold f_M_written at hF
  refine lv_aload_n hx hb d_M_written_0 rfl (lv_at hl 0 rfl) ?_
  refine lv_iload_n hx hb d_M_written_1 rfl (lv_at hl 1 rfl) ?_
  obtain ⟨j1, q3, hF⟩ := Option.bind_eq_some_iff.mp hF
  have k2 : ∀ (H : Heap) (locs : List Loc) (ls : Array Slot), va_P D vwC (wM A cc g0) H → va_D AA (wM A cc g0) → va_S AA s.heap H locs → lv_has ls 4 [(0, .ref (A 0)), (1, .int a0), (2, .int a1), (3, .int a2)] → W p l e rm_M_written s m ([Value.ref (A 0), Value.int a0, Value.int a1, Value.int a2] : List Value).toArray below meth c H locs 0 0 (MQ below (va_Qi (fun r u => (r, u) = res) (bw D (wM A cc) (kM cc) AA) AA) ([Value.ref (A 0), Value.int a0, Value.int a1, Value.int a2] : List Value).toArray s 0 0 AA) (F0 m 14 ls [.int j1, .ref (A 0)]) := by
    intro H locs ls hP hD hS hl
    refine va_put (D := D) (ci := 3) (v := .int j1) (ty := .int) (C := R_M) (T := T_M) (N := 13) hx hb hts in_M ft_M ft_M_ok fn_M hown hK hP hD hS 0 rfl rfl 0 (by decide) (hw _ ww_534) (fun _ h9 => h9) rfl (by decide +kernel) rfl rfl (Nat.le_of_ble_eq_true rfl) d_M_written_14 (fun H locs hP hD hS => ?_)
    have hP : va_P D vwC (wM A cc (j1, g0.2.1, g0.2.2.1, g0.2.2.2.1, g0.2.2.2.2.1, g0.2.2.2.2.2.1, g0.2.2.2.2.2.2.1, g0.2.2.2.2.2.2.2.1, g0.2.2.2.2.2.2.2.2.1, g0.2.2.2.2.2.2.2.2.2.1, g0.2.2.2.2.2.2.2.2.2.2.1, g0.2.2.2.2.2.2.2.2.2.2.2.1, g0.2.2.2.2.2.2.2.2.2.2.2.2)) H := hP
    have hD : va_D AA (wM A cc (j1, g0.2.1, g0.2.2.1, g0.2.2.2.1, g0.2.2.2.2.1, g0.2.2.2.2.2.1, g0.2.2.2.2.2.2.1, g0.2.2.2.2.2.2.2.1, g0.2.2.2.2.2.2.2.2.1, g0.2.2.2.2.2.2.2.2.2.1, g0.2.2.2.2.2.2.2.2.2.2.1, g0.2.2.2.2.2.2.2.2.2.2.2.1, g0.2.2.2.2.2.2.2.2.2.2.2.2)) := hD
    refine lv_aload_n hx hb d_M_written_17 rfl (lv_at hl 0 rfl) ?_
    refine va_get (D := D) (ci := 3) (v := .int j1) (C := R_M) (T := T_M) (N := 13) hx hb hts in_M hown hK hP 0 rfl rfl 0 (by decide) (hw _ ww_534) (fun _ h9 => h9) rfl d_M_written_18 ?_
    obtain ⟨j5, q7, hF⟩ := Option.bind_eq_some_iff.mp hF
    have k6 : ∀ (H : Heap) (locs : List Loc) (ls : Array Slot), va_P D vwC (wM A cc j5) H → va_D AA (wM A cc j5) → va_S AA s.heap H locs → lv_has ls 4 [(0, .ref (A 0)), (3, .int a2)] → W p l e rm_M_written s m ([Value.ref (A 0), Value.int a0, Value.int a1, Value.int a2] : List Value).toArray below meth c H locs 0 0 (MQ below (va_Qi (fun r u => (r, u) = res) (bw D (wM A cc) (kM cc) AA) AA) ([Value.ref (A 0), Value.int a0, Value.int a1, Value.int a2] : List Value).toArray s 0 0 AA) (F0 m 52 ls []) := by
      intro H locs ls hP hD hS hl
      refine lv_aload_n hx hb d_M_written_52 rfl (lv_at hl 0 rfl) ?_
      refine va_get (D := D) (ci := 3) (v := .int j5.1) (C := R_M) (T := T_M) (N := 13) hx hb hts in_M hown hK hP 0 rfl rfl 0 (by decide) (hw _ ww_534) (fun _ h9 => h9) rfl d_M_written_53 ?_
      obtain ⟨j9, q11, hF⟩ := Option.bind_eq_some_iff.mp hF
      have k10 : ∀ (H : Heap) (locs : List Loc) (ls : Array Slot), va_P D vwC (wM A cc j5) H → va_D AA (wM A cc j5) → va_S AA s.heap H locs → lv_has ls 4 [] → W p l e rm_M_written s m ([Value.ref (A 0), Value.int a0, Value.int a1, Value.int a2] : List Value).toArray below meth c H locs 0 0 (MQ below (va_Qi (fun r u => (r, u) = res) (bw D (wM A cc) (kM cc) AA) AA) ([Value.ref (A 0), Value.int a0, Value.int a1, Value.int a2] : List Value).toArray s 0 0 AA) (F0 m 80 ls [.int j9]) := by
        intro H locs ls hP hD hS hl
        obtain rfl := Option.some.inj hF
        exact W.iret hx hb hr (fun t ht hW => ⟨⟨_, _, rfl, rfl, bw_end hP hK hD ht hW⟩, hS.F ht⟩) hS.2.2 d_M_written_80
      clear hF
      have hF := q11
      refine lv_if_eq hx hb d_M_written_56 (tgt := 63) (by decide) (fun h9 => ?_) (fun h9 => ?_)
      · have hF := (if_pos h9).symm.trans hF
        refine lv_iload_n hx hb d_M_written_63 rfl (lv_at hl 1 rfl) ?_
        refine lv_if_ge hx hb d_M_written_64 (tgt := 74) (by decide) (fun h9 => ?_) (fun h9 => ?_)
        · have hF := (if_pos h9).symm.trans hF
          refine lv_aload_n hx hb d_M_written_74 rfl (lv_at hl 0 rfl) ?_
          refine va_get (D := D) (ci := 3) (v := .ref (A 8)) (C := R_M) (T := T_M) (N := 13) hx hb hts in_M hown hK hP 0 rfl rfl 12 (by decide) (hw _ ww_546) (fun _ h9 => h9) rfl d_M_written_75 ?_
          refine lv_iload_n hx hb d_M_written_78 rfl (lv_at hl 1 rfl) ?_
          by_cases h13 : a2 < 0 ∨ 16 ≤ Int32.toNatClampNeg a2
          · have h0 := (if_pos h13).symm.trans hF; cases h0
          have hF := (if_neg h13).symm.trans hF
          refine va_iald hx hb hK hP 8 7 rfl rfl h13 d_M_written_79 ?_
          obtain rfl := Option.some.inj hF
          exact k10 _ _ ls hP hD hS (lv_sub hl [] rfl)
        · have hF := (if_neg h9).symm.trans hF
          refine lv_aload_n hx hb d_M_written_67 rfl (lv_at hl 0 rfl) ?_
          refine va_get (D := D) (ci := 3) (v := .int j5.2.2.2.2.2.2.2.2.2.2.2.1) (C := R_M) (T := T_M) (N := 13) hx hb hts in_M hown hK hP 0 rfl rfl 11 (by decide) (hw _ ww_545) (fun _ h9 => h9) rfl d_M_written_68 ?_
          refine lv_goto hx hb d_M_written_71 (tgt := 80) (by decide) ?_
          obtain rfl := Option.some.inj hF
          exact k10 _ _ ls hP hD hS (lv_sub hl [] rfl)
      · have hF := (if_neg h9).symm.trans hF
        refine lv_iconst (v := 0) hx hb d_M_written_59 (by decide) ?_
        refine lv_goto hx hb d_M_written_60 (tgt := 80) (by decide) ?_
        obtain rfl := Option.some.inj hF
        exact k10 _ _ ls hP hD hS (lv_sub hl [] rfl)
    clear hF
    have hF := q7
    refine lv_if_ne hx hb d_M_written_21 (tgt := 52) (by decide) (fun h9 => ?_) (fun h9 => ?_)
    · have hF := (if_neg h9).symm.trans hF
      obtain rfl := Option.some.inj hF
      exact k6 _ _ ls hP hD hS (lv_sub hl [0, 3] rfl)
    · have hF := (if_pos h9).symm.trans hF
      refine lv_aload_n hx hb d_M_written_24 rfl (lv_at hl 0 rfl) ?_
      refine lv_iload_n hx hb d_M_written_25 rfl (lv_at hl 1 rfl) ?_
      refine lv_iload_n hx hb d_M_written_26 rfl (lv_at hl 2 rfl) ?_
      obtain ⟨g14, e_g14, hF⟩ := Option.bind_eq_some_iff.mp hF
      have hFc := va_free (wc := wM A cc (j1, g0.2.1, g0.2.2.1, g0.2.2.2.1, g0.2.2.2.2.1, g0.2.2.2.2.2.1, g0.2.2.2.2.2.2.1, g0.2.2.2.2.2.2.2.1, g0.2.2.2.2.2.2.2.2.1, g0.2.2.2.2.2.2.2.2.2.1, g0.2.2.2.2.2.2.2.2.2.2.1, g0.2.2.2.2.2.2.2.2.2.2.2.1, g0.2.2.2.2.2.2.2.2.2.2.2.2)) hD hS hA [0, 1, 2, 3, 4, 5, 6, 7, 8] rfl
      refine va_callv (va_runV (As := [.int a0, .int a1]) (rest := []) ⟨hx, hb, hml, hown, hts⟩ (k_M_layForm l D A cc (j1, g0.2.1, g0.2.2.1, g0.2.2.2.1, g0.2.2.2.2.1, g0.2.2.2.2.2.1, g0.2.2.2.2.2.2.1, g0.2.2.2.2.2.2.2.1, g0.2.2.2.2.2.2.2.2.1, g0.2.2.2.2.2.2.2.2.2.1, g0.2.2.2.2.2.2.2.2.2.2.1, g0.2.2.2.2.2.2.2.2.2.2.2.1, g0.2.2.2.2.2.2.2.2.2.2.2.2) a0 a1 _ g14 e_g14) (cwV 2 hts (ga_V ww_730 ww_732 wp_11 ww_4 ww_733) rfl rfl rfl (by decide +kernel) ⟨by decide, by decide⟩) (pw_pre (q0 := 0) (ci := 3) hP hK hD hN rfl rfl) rfl rfl hl.1 rfl (lv_room (Nat.le_of_ble_eq_true rfl)) d_M_written_27 ⟨Nat.zero_le _, Nat.zero_le _⟩) hS (fun q _ h => hFc q h) hFc (fun u9 t H locs ht hvm hp hB hz1 hk1 hS => ?_)
      obtain rfl : g14 = u9 := hp.symm
      obtain ⟨hP, hD⟩ := bw_back hB ht hFc
      refine lv_aload_n hx hb d_M_written_30 rfl (lv_at hl 0 rfl) ?_
      refine lv_iload_n hx hb d_M_written_31 rfl (lv_at hl 3 rfl) ?_
      refine lv_iconst (v := (-1)) hx hb d_M_written_32 (by decide) ?_
      obtain ⟨j15, q17, hF⟩ := Option.bind_eq_some_iff.mp hF
      have k16 : ∀ (H : Heap) (locs : List Loc) (ls : Array Slot), va_P D vwC (wM A cc g14) H → va_D AA (wM A cc g14) → va_S AA s.heap H locs → lv_has ls 4 [(0, .ref (A 0)), (3, .int a2)] → W p l e rm_M_written s m ([Value.ref (A 0), Value.int a0, Value.int a1, Value.int a2] : List Value).toArray below meth c H locs 0 0 (MQ below (va_Qi (fun r u => (r, u) = res) (bw D (wM A cc) (kM cc) AA) AA) ([Value.ref (A 0), Value.int a0, Value.int a1, Value.int a2] : List Value).toArray s 0 0 AA) (F0 m 49 ls [.int j15, .ref (A 0)]) := by
        intro H locs ls hP hD hS hl
        refine va_put (D := D) (ci := 3) (v := .int j15) (ty := .int) (C := R_M) (T := T_M) (N := 13) hx hb hts in_M ft_M ft_M_ok fn_M hown hK hP hD hS 0 rfl rfl 0 (by decide) (hw _ ww_534) (fun _ h9 => h9) rfl (by decide +kernel) rfl rfl (Nat.le_of_ble_eq_true rfl) d_M_written_49 (fun H locs hP hD hS => ?_)
        have hP : va_P D vwC (wM A cc (j15, g14.2.1, g14.2.2.1, g14.2.2.2.1, g14.2.2.2.2.1, g14.2.2.2.2.2.1, g14.2.2.2.2.2.2.1, g14.2.2.2.2.2.2.2.1, g14.2.2.2.2.2.2.2.2.1, g14.2.2.2.2.2.2.2.2.2.1, g14.2.2.2.2.2.2.2.2.2.2.1, g14.2.2.2.2.2.2.2.2.2.2.2.1, g14.2.2.2.2.2.2.2.2.2.2.2.2)) H := hP
        have hD : va_D AA (wM A cc (j15, g14.2.1, g14.2.2.1, g14.2.2.2.1, g14.2.2.2.2.1, g14.2.2.2.2.2.1, g14.2.2.2.2.2.2.1, g14.2.2.2.2.2.2.2.1, g14.2.2.2.2.2.2.2.2.1, g14.2.2.2.2.2.2.2.2.2.1, g14.2.2.2.2.2.2.2.2.2.2.1, g14.2.2.2.2.2.2.2.2.2.2.2.1, g14.2.2.2.2.2.2.2.2.2.2.2.2)) := hD
        obtain rfl := Option.some.inj hF
        exact k6 _ _ ls hP hD hS (lv_sub hl [0, 1] rfl)
      clear hF
      have hF := q17
      refine lv_icmp_lt hx hb d_M_written_33 (tgt := 44) (by decide) (fun h9 => ?_) (fun h9 => ?_)
      · have hF := (if_pos h9).symm.trans hF
        refine lv_iconst (v := 1) hx hb d_M_written_44 (by decide) ?_
        refine lv_goto hx hb d_M_written_45 (tgt := 49) (by decide) ?_
        obtain rfl := Option.some.inj hF
        exact k16 _ _ ls hP hD hS (lv_sub hl [0, 3] rfl)
      · have hF := (if_neg h9).symm.trans hF
        refine lv_iload_n hx hb d_M_written_36 rfl (lv_at hl 3 rfl) ?_
        refine lv_aload_n hx hb d_M_written_37 rfl (lv_at hl 0 rfl) ?_
        refine va_get (D := D) (ci := 3) (v := .int g14.2.2.2.2.2.2.2.2.2.2.2.1) (C := R_M) (T := T_M) (N := 13) hx hb hts in_M hown hK hP 0 rfl rfl 11 (by decide) (hw _ ww_545) (fun _ h9 => h9) rfl d_M_written_38 ?_
        refine lv_icmp_lt hx hb d_M_written_41 (tgt := 48) (by decide) (fun h9 => ?_) (fun h9 => ?_)
        · have hF := (if_pos h9).symm.trans hF
          refine lv_iconst (v := 0) hx hb d_M_written_48 (by decide) ?_
          obtain rfl := Option.some.inj hF
          exact k16 _ _ ls hP hD hS (lv_sub hl [0, 3] rfl)
        · have hF := (if_neg h9).symm.trans hF
          refine lv_iconst (v := 1) hx hb d_M_written_44 (by decide) ?_
          refine lv_goto hx hb d_M_written_45 (tgt := 49) (by decide) ?_
          obtain rfl := Option.some.inj hF
          exact k16 _ _ ls hP hD hS (lv_sub hl [0, 3] rfl)
  clear hF
  have hF := q3
  refine lv_if_lt hx hb d_M_written_2 (tgt := 9) (by decide) (fun h9 => ?_) (fun h9 => ?_)
  · have hF := (if_pos h9).symm.trans hF
    refine lv_iconst (v := 1) hx hb d_M_written_9 (by decide) ?_
    refine lv_goto hx hb d_M_written_10 (tgt := 14) (by decide) ?_
    obtain rfl := Option.some.inj hF
    exact k2 _ _ ls hP hD hS (lv_sub hl [0, 1, 2, 3] rfl)
  · have hF := (if_neg h9).symm.trans hF
    refine lv_iload_n hx hb d_M_written_5 rfl (lv_at hl 2 rfl) ?_
    refine lv_if_ge hx hb d_M_written_6 (tgt := 13) (by decide) (fun h9 => ?_) (fun h9 => ?_)
    · have hF := (if_pos h9).symm.trans hF
      refine lv_iconst (v := 0) hx hb d_M_written_13 (by decide) ?_
      obtain rfl := Option.some.inj hF
      exact k2 _ _ ls hP hD hS (lv_sub hl [0, 1, 2, 3] rfl)
    · have hF := (if_neg h9).symm.trans hF
      refine lv_iconst (v := 1) hx hb d_M_written_9 (by decide) ?_
      refine lv_goto hx hb d_M_written_10 (tgt := 14) (by decide) ?_
      obtain rfl := Option.some.inj hF
      exact k2 _ _ ls hP hD hS (lv_sub hl [0, 1, 2, 3] rfl)
def f_M_type (g0 : sM) (a0 : Int32) : Option (Int32 × sM) := Option.bind (if a0 < 0 then (some (1) : Option (Int32)) else (if a0 ≤ 255 then (if g0.2.2.2.2.2.2.2.2.2.1 = 20 then (some (2)) else (some (0))) else (some (1)))) (fun j1 => if j1 = 0 then (if g0.2.2.2.2.2.2.2.2.2.1 < 0 ∨ 20 ≤ Int32.toNatClampNeg g0.2.2.2.2.2.2.2.2.2.1 then none else (some ((g0.2.2.2.2.2.2.2.2.2.1 + 1), (j1, g0.2.1, g0.2.2.1, g0.2.2.2.1, g0.2.2.2.2.1, g0.2.2.2.2.2.1, g0.2.2.2.2.2.2.1, g0.2.2.2.2.2.2.2.1, g0.2.2.2.2.2.2.2.2.1, (g0.2.2.2.2.2.2.2.2.2.1 + 1), (upd g0.2.2.2.2.2.2.2.2.2.2.1 (Int32.toNatClampNeg g0.2.2.2.2.2.2.2.2.2.1) a0), g0.2.2.2.2.2.2.2.2.2.2.2.1, g0.2.2.2.2.2.2.2.2.2.2.2.2)))) else (some (0, (j1, g0.2.1, g0.2.2.1, g0.2.2.2.1, g0.2.2.2.2.1, g0.2.2.2.2.2.1, g0.2.2.2.2.2.2.1, g0.2.2.2.2.2.2.2.1, g0.2.2.2.2.2.2.2.2.1, g0.2.2.2.2.2.2.2.2.2.1, g0.2.2.2.2.2.2.2.2.2.2.1, g0.2.2.2.2.2.2.2.2.2.2.2.1, g0.2.2.2.2.2.2.2.2.2.2.2.2))))
abbrev rm_M_type : Room := { frames := 0, cells := 0, slots := 0, locals := 0 }
set_option maxHeartbeats 4000000 in
set_option maxRecDepth 100000 in
theorem k_M_type (l : Launch) (D : va_G) (A : Nat → Nat) (cc : Nat → ClassId) (g0 : sM) (a0 : Int32) (sz : Nat) (res : (Int32 × sM)) (hF : f_M_type g0 a0 = some res) : Met l y_M_type (Cond.code y_M_type b_M_type 2 (some .int) :: wa) rm_M_type (pw D (wM A cc g0) (kM cc) [.ref (A 0), .int a0] sz) (va_Qi (fun r u => (r, u) = res) (bw D (wM A cc) (kM cc) (va_A (wM A cc g0) sz)) (va_A (wM A cc g0) sz)) 0 0 (va_A (wM A cc g0) sz) := by
  refine Met.ofW (cc := b_M_type) (maxL := 2) (ret := (some .int)) (by decide) rfl ?_
  intro p e s m args below meth c s₁ B hml hv
  obtain ⟨rfl, hsz, hP, hK, hD0, hN⟩ := hv
  have hx := B.exec
  have hb := B.bytes
  have hr := B.returns
  have hts := atoms_spec (ws := Cond.code y_M_type b_M_type 2 (some .int) :: wa) B.pre
  have hw : ∀ w ∈ wa, w.before _ s = true := fun w h => hts w (List.mem_cons_of_mem _ h)
  have hown : s.vm.findClass R_M = some m.cls := findClass_of_methodNamed B.named
  have hlocks := B.notSynchronized
  subst hsz
  have hD := hD0.self (sz := s.heap.size)
  generalize hAe : va_A (wM A cc g0) s.heap.size = AA at hD ⊢
  have hA : ∀ q : Nat, s.heap.size ≤ q → AA q := fun q h => by rw [← hAe]; exact Or.inr h
  have hS : va_S AA s.heap s.heap [] := va_S.rf
  have hl := lv_entry ([.ref (A 0), .int a0]) (n := 2) (Nat.le_of_ble_eq_true rfl)
  rw [lg_entry_eq]
  generalize (lg_sl ([.ref (A 0), .int a0]) ++ List.replicate (2 - (lg_sl ([.ref (A 0), .int a0])).length) Slot.unset).toArray = ls at hl ⊢
  have hl : lv_has ls 2 [(0, .ref (A 0)), (1, .int a0)] := hl
  unfold f_M_type at hF
  refine lv_aload_n hx hb d_M_type_0 rfl (lv_at hl 0 rfl) ?_
  refine lv_iload_n hx hb d_M_type_1 rfl (lv_at hl 1 rfl) ?_
  obtain ⟨j1, q3, hF⟩ := Option.bind_eq_some_iff.mp hF
  have k2 : ∀ (H : Heap) (locs : List Loc) (ls : Array Slot), va_P D vwC (wM A cc g0) H → va_D AA (wM A cc g0) → va_S AA s.heap H locs → lv_has ls 2 [(0, .ref (A 0)), (1, .int a0)] → W p l e rm_M_type s m ([Value.ref (A 0), Value.int a0] : List Value).toArray below meth c H locs 0 0 (MQ below (va_Qi (fun r u => (r, u) = res) (bw D (wM A cc) (kM cc) AA) AA) ([Value.ref (A 0), Value.int a0] : List Value).toArray s 0 0 AA) (F0 m 30 ls [.int j1, .ref (A 0)]) := by
    intro H locs ls hP hD hS hl
    refine va_put (D := D) (ci := 3) (v := .int j1) (ty := .int) (C := R_M) (T := T_M) (N := 13) hx hb hts in_M ft_M ft_M_ok fn_M hown hK hP hD hS 0 rfl rfl 0 (by decide) (hw _ ww_534) (fun _ h9 => h9) rfl (by decide +kernel) rfl rfl (Nat.le_of_ble_eq_true rfl) d_M_type_30 (fun H locs hP hD hS => ?_)
    have hP : va_P D vwC (wM A cc (j1, g0.2.1, g0.2.2.1, g0.2.2.2.1, g0.2.2.2.2.1, g0.2.2.2.2.2.1, g0.2.2.2.2.2.2.1, g0.2.2.2.2.2.2.2.1, g0.2.2.2.2.2.2.2.2.1, g0.2.2.2.2.2.2.2.2.2.1, g0.2.2.2.2.2.2.2.2.2.2.1, g0.2.2.2.2.2.2.2.2.2.2.2.1, g0.2.2.2.2.2.2.2.2.2.2.2.2)) H := hP
    have hD : va_D AA (wM A cc (j1, g0.2.1, g0.2.2.1, g0.2.2.2.1, g0.2.2.2.2.1, g0.2.2.2.2.2.1, g0.2.2.2.2.2.2.1, g0.2.2.2.2.2.2.2.1, g0.2.2.2.2.2.2.2.2.1, g0.2.2.2.2.2.2.2.2.2.1, g0.2.2.2.2.2.2.2.2.2.2.1, g0.2.2.2.2.2.2.2.2.2.2.2.1, g0.2.2.2.2.2.2.2.2.2.2.2.2)) := hD
    refine lv_aload_n hx hb d_M_type_33 rfl (lv_at hl 0 rfl) ?_
    refine va_get (D := D) (ci := 3) (v := .int j1) (C := R_M) (T := T_M) (N := 13) hx hb hts in_M hown hK hP 0 rfl rfl 0 (by decide) (hw _ ww_534) (fun _ h9 => h9) rfl d_M_type_34 ?_
    refine lv_if_eq hx hb d_M_type_37 (tgt := 42) (by decide) (fun h9 => ?_) (fun h9 => ?_)
    · have hF := (if_pos h9).symm.trans hF
      refine lv_aload_n hx hb d_M_type_42 rfl (lv_at hl 0 rfl) ?_
      refine va_get (D := D) (ci := 3) (v := .ref (A 7)) (C := R_M) (T := T_M) (N := 13) hx hb hts in_M hown hK hP 0 rfl rfl 10 (by decide) (hw _ ww_544) (fun _ h9 => h9) rfl d_M_type_43 ?_
      refine lv_aload_n hx hb d_M_type_46 rfl (lv_at hl 0 rfl) ?_
      refine va_get (D := D) (ci := 3) (v := .int g0.2.2.2.2.2.2.2.2.2.1) (C := R_M) (T := T_M) (N := 13) hx hb hts in_M hown hK hP 0 rfl rfl 9 (by decide) (hw _ ww_543) (fun _ h9 => h9) rfl d_M_type_47 ?_
      refine lv_iload_n hx hb d_M_type_50 rfl (lv_at hl 1 rfl) ?_
      by_cases h5 : g0.2.2.2.2.2.2.2.2.2.1 < 0 ∨ 20 ≤ Int32.toNatClampNeg g0.2.2.2.2.2.2.2.2.2.1
      · have h0 := (if_pos h5).symm.trans hF; cases h0
      have hF := (if_neg h5).symm.trans hF
      refine va_iast hx hb hK hP hD hS 7 6 rfl rfl h5 d_M_type_51 (fun H locs hP hD hS => ?_)
      have hP : va_P D vwC (wM A cc (j1, g0.2.1, g0.2.2.1, g0.2.2.2.1, g0.2.2.2.2.1, g0.2.2.2.2.2.1, g0.2.2.2.2.2.2.1, g0.2.2.2.2.2.2.2.1, g0.2.2.2.2.2.2.2.2.1, g0.2.2.2.2.2.2.2.2.2.1, (upd g0.2.2.2.2.2.2.2.2.2.2.1 (Int32.toNatClampNeg g0.2.2.2.2.2.2.2.2.2.1) a0), g0.2.2.2.2.2.2.2.2.2.2.2.1, g0.2.2.2.2.2.2.2.2.2.2.2.2)) H := hP
      have hD : va_D AA (wM A cc (j1, g0.2.1, g0.2.2.1, g0.2.2.2.1, g0.2.2.2.2.1, g0.2.2.2.2.2.1, g0.2.2.2.2.2.2.1, g0.2.2.2.2.2.2.2.1, g0.2.2.2.2.2.2.2.2.1, g0.2.2.2.2.2.2.2.2.2.1, (upd g0.2.2.2.2.2.2.2.2.2.2.1 (Int32.toNatClampNeg g0.2.2.2.2.2.2.2.2.2.1) a0), g0.2.2.2.2.2.2.2.2.2.2.2.1, g0.2.2.2.2.2.2.2.2.2.2.2.2)) := hD
      refine lv_aload_n hx hb d_M_type_52 rfl (lv_at hl 0 rfl) ?_
      refine lv_dup hx hb d_M_type_53 rfl ?_
      refine va_get (D := D) (ci := 3) (v := .int g0.2.2.2.2.2.2.2.2.2.1) (C := R_M) (T := T_M) (N := 13) hx hb hts in_M hown hK hP 0 rfl rfl 9 (by decide) (hw _ ww_543) (fun _ h9 => h9) rfl d_M_type_54 ?_
      refine lv_iconst (v := 1) hx hb d_M_type_57 (by decide) ?_
      refine lv_iadd hx hb d_M_type_58 ?_
      refine va_put (D := D) (ci := 3) (v := .int (g0.2.2.2.2.2.2.2.2.2.1 + 1)) (ty := .int) (C := R_M) (T := T_M) (N := 13) hx hb hts in_M ft_M ft_M_ok fn_M hown hK hP hD hS 0 rfl rfl 9 (by decide) (hw _ ww_543) (fun _ h9 => h9) rfl (by decide +kernel) rfl rfl (Nat.le_of_ble_eq_true rfl) d_M_type_59 (fun H locs hP hD hS => ?_)
      have hP : va_P D vwC (wM A cc (j1, g0.2.1, g0.2.2.1, g0.2.2.2.1, g0.2.2.2.2.1, g0.2.2.2.2.2.1, g0.2.2.2.2.2.2.1, g0.2.2.2.2.2.2.2.1, g0.2.2.2.2.2.2.2.2.1, (g0.2.2.2.2.2.2.2.2.2.1 + 1), (upd g0.2.2.2.2.2.2.2.2.2.2.1 (Int32.toNatClampNeg g0.2.2.2.2.2.2.2.2.2.1) a0), g0.2.2.2.2.2.2.2.2.2.2.2.1, g0.2.2.2.2.2.2.2.2.2.2.2.2)) H := hP
      have hD : va_D AA (wM A cc (j1, g0.2.1, g0.2.2.1, g0.2.2.2.1, g0.2.2.2.2.1, g0.2.2.2.2.2.1, g0.2.2.2.2.2.2.1, g0.2.2.2.2.2.2.2.1, g0.2.2.2.2.2.2.2.2.1, (g0.2.2.2.2.2.2.2.2.2.1 + 1), (upd g0.2.2.2.2.2.2.2.2.2.2.1 (Int32.toNatClampNeg g0.2.2.2.2.2.2.2.2.2.1) a0), g0.2.2.2.2.2.2.2.2.2.2.2.1, g0.2.2.2.2.2.2.2.2.2.2.2.2)) := hD
      refine lv_aload_n hx hb d_M_type_62 rfl (lv_at hl 0 rfl) ?_
      refine va_get (D := D) (ci := 3) (v := .int (g0.2.2.2.2.2.2.2.2.2.1 + 1)) (C := R_M) (T := T_M) (N := 13) hx hb hts in_M hown hK hP 0 rfl rfl 9 (by decide) (hw _ ww_543) (fun _ h9 => h9) rfl d_M_type_63 ?_
      obtain rfl := Option.some.inj hF
      exact W.iret hx hb hr (fun t ht hW => ⟨⟨_, _, rfl, rfl, bw_end hP hK hD ht hW⟩, hS.F ht⟩) hS.2.2 d_M_type_66
    · have hF := (if_neg h9).symm.trans hF
      refine lv_iconst (v := 0) hx hb d_M_type_40 (by decide) ?_
      obtain rfl := Option.some.inj hF
      exact W.iret hx hb hr (fun t ht hW => ⟨⟨_, _, rfl, rfl, bw_end hP hK hD ht hW⟩, hS.F ht⟩) hS.2.2 d_M_type_41
  clear hF
  have hF := q3
  refine lv_if_lt hx hb d_M_type_2 (tgt := 12) (by decide) (fun h9 => ?_) (fun h9 => ?_)
  · have hF := (if_pos h9).symm.trans hF
    refine lv_iconst (v := 1) hx hb d_M_type_12 (by decide) ?_
    refine lv_goto hx hb d_M_type_13 (tgt := 30) (by decide) ?_
    obtain rfl := Option.some.inj hF
    exact k2 _ _ ls hP hD hS (lv_sub hl [0, 1] rfl)
  · have hF := (if_neg h9).symm.trans hF
    refine lv_iload_n hx hb d_M_type_5 rfl (lv_at hl 1 rfl) ?_
    refine lv_sipush (v := 255) hx hb d_M_type_6 (by decide) ?_
    refine lv_icmp_le hx hb d_M_type_9 (tgt := 16) (by decide) (fun h9 => ?_) (fun h9 => ?_)
    · have hF := (if_pos h9).symm.trans hF
      refine lv_aload_n hx hb d_M_type_16 rfl (lv_at hl 0 rfl) ?_
      refine va_get (D := D) (ci := 3) (v := .int g0.2.2.2.2.2.2.2.2.2.1) (C := R_M) (T := T_M) (N := 13) hx hb hts in_M hown hK hP 0 rfl rfl 9 (by decide) (hw _ ww_543) (fun _ h9 => h9) rfl d_M_type_17 ?_
      refine lv_bipush (v := 20) hx hb d_M_type_20 (by decide) ?_
      refine lv_icmp_ne hx hb d_M_type_22 (tgt := 29) (by decide) (fun h9 => ?_) (fun h9 => ?_)
      · have hF := (if_neg h9).symm.trans hF
        refine lv_iconst (v := 0) hx hb d_M_type_29 (by decide) ?_
        obtain rfl := Option.some.inj hF
        exact k2 _ _ ls hP hD hS (lv_sub hl [0, 1] rfl)
      · have hF := (if_pos h9).symm.trans hF
        refine lv_iconst (v := 2) hx hb d_M_type_25 (by decide) ?_
        refine lv_goto hx hb d_M_type_26 (tgt := 30) (by decide) ?_
        obtain rfl := Option.some.inj hF
        exact k2 _ _ ls hP hD hS (lv_sub hl [0, 1] rfl)
    · have hF := (if_neg h9).symm.trans hF
      refine lv_iconst (v := 1) hx hb d_M_type_12 (by decide) ?_
      refine lv_goto hx hb d_M_type_13 (tgt := 30) (by decide) ?_
      obtain rfl := Option.some.inj hF
      exact k2 _ _ ls hP hD hS (lv_sub hl [0, 1] rfl)
def f_M_byteAt (g0 : sM) (a0 : Int32) : Option (Int32 × sM) := Option.bind (if g0.2.2.2.2.2.2.2.2.2.1 ≤ a0 then (some (0) : Option (Int32)) else (if a0 < 0 ∨ 20 ≤ Int32.toNatClampNeg a0 then none else (some (g0.2.2.2.2.2.2.2.2.2.2.1 (Int32.toNatClampNeg a0))))) (fun j1 => some (j1, g0))
abbrev rm_M_byteAt : Room := { frames := 0, cells := 0, slots := 0, locals := 0 }
set_option maxHeartbeats 4000000 in
set_option maxRecDepth 100000 in
theorem k_M_byteAt (l : Launch) (D : va_G) (A : Nat → Nat) (cc : Nat → ClassId) (g0 : sM) (a0 : Int32) (sz : Nat) (res : (Int32 × sM)) (hF : f_M_byteAt g0 a0 = some res) : Met l y_M_byteAt (Cond.code y_M_byteAt b_M_byteAt 2 (some .int) :: wa) rm_M_byteAt (pw D (wM A cc g0) (kM cc) [.ref (A 0), .int a0] sz) (va_Qi (fun r u => (r, u) = res) (bw D (wM A cc) (kM cc) (va_A (wM A cc g0) sz)) (va_A (wM A cc g0) sz)) 0 0 (va_A (wM A cc g0) sz) := by
  refine Met.ofW (cc := b_M_byteAt) (maxL := 2) (ret := (some .int)) (by decide) rfl ?_
  intro p e s m args below meth c s₁ B hml hv
  obtain ⟨rfl, hsz, hP, hK, hD0, hN⟩ := hv
  have hx := B.exec
  have hb := B.bytes
  have hr := B.returns
  have hts := atoms_spec (ws := Cond.code y_M_byteAt b_M_byteAt 2 (some .int) :: wa) B.pre
  have hw : ∀ w ∈ wa, w.before _ s = true := fun w h => hts w (List.mem_cons_of_mem _ h)
  have hown : s.vm.findClass R_M = some m.cls := findClass_of_methodNamed B.named
  have hlocks := B.notSynchronized
  subst hsz
  have hD := hD0.self (sz := s.heap.size)
  generalize hAe : va_A (wM A cc g0) s.heap.size = AA at hD ⊢
  have hA : ∀ q : Nat, s.heap.size ≤ q → AA q := fun q h => by rw [← hAe]; exact Or.inr h
  have hS : va_S AA s.heap s.heap [] := va_S.rf
  have hl := lv_entry ([.ref (A 0), .int a0]) (n := 2) (Nat.le_of_ble_eq_true rfl)
  rw [lg_entry_eq]
  generalize (lg_sl ([.ref (A 0), .int a0]) ++ List.replicate (2 - (lg_sl ([.ref (A 0), .int a0])).length) Slot.unset).toArray = ls at hl ⊢
  have hl : lv_has ls 2 [(0, .ref (A 0)), (1, .int a0)] := hl
  unfold f_M_byteAt at hF
  refine lv_iload_n hx hb d_M_byteAt_0 rfl (lv_at hl 1 rfl) ?_
  refine lv_aload_n hx hb d_M_byteAt_1 rfl (lv_at hl 0 rfl) ?_
  refine va_get (D := D) (ci := 3) (v := .int g0.2.2.2.2.2.2.2.2.2.1) (C := R_M) (T := T_M) (N := 13) hx hb hts in_M hown hK hP 0 rfl rfl 9 (by decide) (hw _ ww_543) (fun _ h9 => h9) rfl d_M_byteAt_2 ?_
  obtain ⟨j1, q3, hF⟩ := Option.bind_eq_some_iff.mp hF
  have k2 : ∀ (H : Heap) (locs : List Loc) (ls : Array Slot), va_P D vwC (wM A cc g0) H → va_D AA (wM A cc g0) → va_S AA s.heap H locs → lv_has ls 2 [] → W p l e rm_M_byteAt s m ([Value.ref (A 0), Value.int a0] : List Value).toArray below meth c H locs 0 0 (MQ below (va_Qi (fun r u => (r, u) = res) (bw D (wM A cc) (kM cc) AA) AA) ([Value.ref (A 0), Value.int a0] : List Value).toArray s 0 0 AA) (F0 m 18 ls [.int j1]) := by
    intro H locs ls hP hD hS hl
    obtain rfl := Option.some.inj hF
    exact W.iret hx hb hr (fun t ht hW => ⟨⟨_, _, rfl, rfl, bw_end hP hK hD ht hW⟩, hS.F ht⟩) hS.2.2 d_M_byteAt_18
  clear hF
  have hF := q3
  refine lv_icmp_ge hx hb d_M_byteAt_5 (tgt := 17) (by decide) (fun h9 => ?_) (fun h9 => ?_)
  · have hF := (if_pos h9).symm.trans hF
    refine lv_iconst (v := 0) hx hb d_M_byteAt_17 (by decide) ?_
    obtain rfl := Option.some.inj hF
    exact k2 _ _ ls hP hD hS (lv_sub hl [] rfl)
  · have hF := (if_neg h9).symm.trans hF
    refine lv_aload_n hx hb d_M_byteAt_8 rfl (lv_at hl 0 rfl) ?_
    refine va_get (D := D) (ci := 3) (v := .ref (A 7)) (C := R_M) (T := T_M) (N := 13) hx hb hts in_M hown hK hP 0 rfl rfl 10 (by decide) (hw _ ww_544) (fun _ h9 => h9) rfl d_M_byteAt_9 ?_
    refine lv_iload_n hx hb d_M_byteAt_12 rfl (lv_at hl 1 rfl) ?_
    by_cases h5 : a0 < 0 ∨ 20 ≤ Int32.toNatClampNeg a0
    · have h0 := (if_pos h5).symm.trans hF; cases h0
    have hF := (if_neg h5).symm.trans hF
    refine va_iald hx hb hK hP 7 6 rfl rfl h5 d_M_byteAt_13 ?_
    refine lv_goto hx hb d_M_byteAt_14 (tgt := 18) (by decide) ?_
    obtain rfl := Option.some.inj hF
    exact k2 _ _ ls hP hD hS (lv_sub hl [] rfl)
def f_M_numberAt_6 (a0 : Int32) : Nat → sM → Int32 → Int32 → Option (sM × Int32 × Int32)
  | 0, _, _, _ => none
  | n + 1, g4, u2, u3 => Option.bind (f_M_byteAt g4 a0) (fun t14 => match t14 with | (r13, g12) => (if (a0 + r13) < u2 then (some (g12, u2, u3)) else (if (a0 + 4) < u2 then (some (g12, u2, u3)) else (Option.bind (f_M_byteAt g12 u2) (fun t17 => match t17 with | (r16, g15) => (Option.bind (some ((u3 <<< (8 &&& 31)) ||| r16)) (fun v18 => Option.bind (some (u2 + 1)) (fun v19 => f_M_numberAt_6 a0 n g15 v19 v18))))))))
def f_M_numberAt (g0 : sM) (a0 : Int32) : Option (Int32 × sM) := Option.bind (some (a0 + 1)) (fun v1 => Option.bind (f_M_numberAt_6 a0 64 g0 v1 0) (fun t21 => match t21 with | (o6, o7, o8) => (some (o8, o6))))
abbrev rm_M_numberAt : Room := { frames := 1, cells := 0, slots := 0, locals := 21 }
set_option maxHeartbeats 4000000 in
set_option maxRecDepth 100000 in
theorem k_M_numberAt (l : Launch) (D : va_G) (A : Nat → Nat) (cc : Nat → ClassId) (g0 : sM) (a0 : Int32) (sz : Nat) (res : (Int32 × sM)) (hF : f_M_numberAt g0 a0 = some res) : Met l y_M_numberAt (Cond.code y_M_numberAt b_M_numberAt 4 (some .int) :: wa) rm_M_numberAt (pw D (wM A cc g0) (kM cc) [.ref (A 0), .int a0] sz) (va_Qi (fun r u => (r, u) = res) (bw D (wM A cc) (kM cc) (va_A (wM A cc g0) sz)) (va_A (wM A cc g0) sz)) 0 0 (va_A (wM A cc g0) sz) := by
  refine Met.ofW (cc := b_M_numberAt) (maxL := 4) (ret := (some .int)) (by decide) rfl ?_
  intro p e s m args below meth c s₁ B hml hv
  obtain ⟨rfl, hsz, hP, hK, hD0, hN⟩ := hv
  have hx := B.exec
  have hb := B.bytes
  have hr := B.returns
  have hts := atoms_spec (ws := Cond.code y_M_numberAt b_M_numberAt 4 (some .int) :: wa) B.pre
  have hw : ∀ w ∈ wa, w.before _ s = true := fun w h => hts w (List.mem_cons_of_mem _ h)
  have hown : s.vm.findClass R_M = some m.cls := findClass_of_methodNamed B.named
  have hlocks := B.notSynchronized
  subst hsz
  have hD := hD0.self (sz := s.heap.size)
  generalize hAe : va_A (wM A cc g0) s.heap.size = AA at hD ⊢
  have hA : ∀ q : Nat, s.heap.size ≤ q → AA q := fun q h => by rw [← hAe]; exact Or.inr h
  have hS : va_S AA s.heap s.heap [] := va_S.rf
  have hl := lv_entry ([.ref (A 0), .int a0]) (n := 4) (Nat.le_of_ble_eq_true rfl)
  rw [lg_entry_eq]
  generalize (lg_sl ([.ref (A 0), .int a0]) ++ List.replicate (4 - (lg_sl ([.ref (A 0), .int a0])).length) Slot.unset).toArray = ls at hl ⊢
  have hl : lv_has ls 4 [(0, .ref (A 0)), (1, .int a0)] := hl
  unfold f_M_numberAt at hF
  refine lv_iconst (v := 0) hx hb d_M_numberAt_0 (by decide) ?_
  refine lv_istore_n hx hb d_M_numberAt_1 rfl hl (by decide) (lv' := [(2, .int 0), (0, .ref (A 0)), (1, .int a0)]) rfl (fun ls hl => ?_)
  refine lv_iload_n hx hb d_M_numberAt_2 rfl (lv_at hl 2 rfl) ?_
  refine lv_iconst (v := 1) hx hb d_M_numberAt_3 (by decide) ?_
  refine lv_iadd hx hb d_M_numberAt_4 ?_
  obtain ⟨v1, e_v1, hF⟩ := Option.bind_eq_some_iff.mp hF
  refine nm_i (Option.some.inj e_v1) ?_
  refine lv_istore_n hx hb d_M_numberAt_5 rfl hl (by decide) (lv' := [(3, .int v1), (2, .int 0), (0, .ref (A 0)), (1, .int a0)]) rfl (fun ls hl => ?_)
  obtain ⟨⟨o6, o7, o8⟩, q20, hF⟩ := Option.bind_eq_some_iff.mp hF
  have k9 : ∀ (H : Heap) (locs : List Loc) (ls : Array Slot), va_P D vwC (wM A cc o6) H → va_D AA (wM A cc o6) → va_S AA s.heap H locs → lv_has ls 4 [(3, .int o7), (2, .int o8), (0, .ref (A 0)), (1, .int a0)] → W p l e rm_M_numberAt s m ([Value.ref (A 0), Value.int a0] : List Value).toArray below meth c H locs 0 0 (MQ below (va_Qi (fun r u => (r, u) = res) (bw D (wM A cc) (kM cc) AA) AA) ([Value.ref (A 0), Value.int a0] : List Value).toArray s 0 0 AA) (F0 m 41 ls []) := by
    intro H locs ls hP hD hS hl
    refine lv_iload_n hx hb d_M_numberAt_41 rfl (lv_at hl 1 rfl) ?_
    obtain rfl := Option.some.inj hF
    exact W.iret hx hb hr (fun t ht hW => ⟨⟨_, _, rfl, rfl, bw_end hP hK hD ht hW⟩, hS.F ht⟩) hS.2.2 d_M_numberAt_42
  clear hF
  have k5 : ∀ (n : Nat) (g4 : sM) (u2 : Int32) (u3 : Int32) (H : Heap) (locs : List Loc) (ls : Array Slot), va_P D vwC (wM A cc g4) H → va_D AA (wM A cc g4) → va_S AA s.heap H locs → lv_has ls 4 [(3, .int u2), (2, .int u3), (0, .ref (A 0)), (1, .int a0)] → f_M_numberAt_6 a0 n g4 u2 u3 = some (o6, o7, o8) → W p l e rm_M_numberAt s m ([Value.ref (A 0), Value.int a0] : List Value).toArray below meth c H locs 0 0 (MQ below (va_Qi (fun r u => (r, u) = res) (bw D (wM A cc) (kM cc) AA) AA) ([Value.ref (A 0), Value.int a0] : List Value).toArray s 0 0 AA) (F0 m 6 ls []) := by
    intro n
    induction n with
    | zero => intro g4 u2 u3 H locs ls hP hD hS hl hF; cases hF
    | succ n ih =>
      intro g4 u2 u3 H locs ls hP hD hS hl hF
      rw [f_M_numberAt_6] at hF
      refine lv_iload_n hx hb d_M_numberAt_6 rfl (lv_at hl 0 rfl) ?_
      refine lv_iload_n hx hb d_M_numberAt_7 rfl (lv_at hl 3 rfl) ?_
      refine lv_aload_n hx hb d_M_numberAt_8 rfl (lv_at hl 2 rfl) ?_
      refine lv_iload_n hx hb d_M_numberAt_9 rfl (lv_at hl 3 rfl) ?_
      obtain ⟨⟨r13, g12⟩, e_g12, hF⟩ := Option.bind_eq_some_iff.mp hF
      have hFc := va_free (wc := wM A cc g4) hD hS hA [0, 1, 2, 3, 4, 5, 6, 7, 8] rfl
      refine va_calli (va_runV (As := [.int a0]) (rest := [.int a0, .int u2]) ⟨hx, hb, hml, hown, hts⟩ (k_M_byteAt l D A cc g4 a0 _ (r13, g12) e_g12) (cwV 1 hts (ga_V ww_759 ww_761 wp_15 ww_4 ww_762) rfl rfl rfl (by decide +kernel) ⟨by decide, by decide⟩) (pw_pre (q0 := 0) (ci := 3) hP hK hD hN rfl rfl) rfl rfl hl.1 rfl (lv_room (Nat.le_of_ble_eq_true rfl)) d_M_numberAt_10 ⟨Nat.zero_le _, Nat.zero_le _⟩) hS (fun q _ h => hFc q h) hFc (fun r9 u9 t H locs ht hvm hp hB hz1 hk1 hS => ?_)
      obtain ⟨rfl, rfl⟩ := Prod.mk.inj hp.symm
      obtain ⟨hP, hD⟩ := bw_back hB ht hFc
      refine lv_iadd hx hb d_M_numberAt_13 ?_
      refine lv_icmp_gt hx hb d_M_numberAt_14 (tgt := 41) (by decide) (fun h9 => ?_) (fun h9 => ?_)
      · have hF := (if_pos h9).symm.trans hF
        cases Option.some.inj hF
        exact k9 _ _ ls hP hD hS (lv_sub hl [0, 1, 2, 3] rfl)
      · have hF := (if_neg h9).symm.trans hF
        refine lv_iload_n hx hb d_M_numberAt_17 rfl (lv_at hl 0 rfl) ?_
        refine lv_iload_n hx hb d_M_numberAt_18 rfl (lv_at hl 3 rfl) ?_
        refine lv_iconst (v := 4) hx hb d_M_numberAt_19 (by decide) ?_
        refine lv_iadd hx hb d_M_numberAt_20 ?_
        refine lv_icmp_gt hx hb d_M_numberAt_21 (tgt := 41) (by decide) (fun h9 => ?_) (fun h9 => ?_)
        · have hF := (if_pos h9).symm.trans hF
          cases Option.some.inj hF
          exact k9 _ _ ls hP hD hS (lv_sub hl [0, 1, 2, 3] rfl)
        · have hF := (if_neg h9).symm.trans hF
          refine lv_iload_n hx hb d_M_numberAt_24 rfl (lv_at hl 1 rfl) ?_
          refine lv_bipush (v := 8) hx hb d_M_numberAt_25 (by decide) ?_
          refine lv_ishl hx hb d_M_numberAt_27 ?_
          refine lv_aload_n hx hb d_M_numberAt_28 rfl (lv_at hl 2 rfl) ?_
          refine lv_iload_n hx hb d_M_numberAt_29 rfl (lv_at hl 0 rfl) ?_
          obtain ⟨⟨r16, g15⟩, e_g15, hF⟩ := Option.bind_eq_some_iff.mp hF
          have hFc := va_free (wc := wM A cc g12) hD hS hA [0, 1, 2, 3, 4, 5, 6, 7, 8] rfl
          refine va_calli (va_runV (As := [.int u2]) (rest := [.int (u3 <<< (8 &&& 31))]) ⟨hx, hb, hml, hown, hts⟩ (k_M_byteAt l D A cc g12 u2 _ (r16, g15) e_g15) (cwV 1 hts (ga_V ww_759 ww_761 wp_15 ww_4 ww_762) rfl rfl rfl (by decide +kernel) ⟨by decide, by decide⟩) (pw_pre (q0 := 0) (ci := 3) hP hK hD hN rfl rfl) rfl rfl hl.1 rfl (lv_room (Nat.le_of_ble_eq_true rfl)) d_M_numberAt_30 ⟨Nat.zero_le _, Nat.zero_le _⟩) hS (fun q _ h => hFc q h) hFc (fun r9 u9 t H locs ht hvm hp hB hz1 hk1 hS => ?_)
          obtain ⟨rfl, rfl⟩ := Prod.mk.inj hp.symm
          obtain ⟨hP, hD⟩ := bw_back hB ht hFc
          refine lv_ior hx hb d_M_numberAt_33 ?_
          obtain ⟨v18, e_v18, hF⟩ := Option.bind_eq_some_iff.mp hF
          refine nm_i (Option.some.inj e_v18) ?_
          refine lv_istore_n hx hb d_M_numberAt_34 rfl hl (by decide) (lv' := [(2, .int v18), (3, .int u2), (0, .ref (A 0)), (1, .int a0)]) rfl (fun ls hl => ?_)
          obtain ⟨v19, e_v19, hF⟩ := Option.bind_eq_some_iff.mp hF
          refine lv_iinc hx hb d_M_numberAt_35 hl (k := 1) (v := v19) rfl ((show _ = u2 + 1 from rfl).trans (Option.some.inj e_v19)) (by decide) (lv' := [(3, .int v19), (2, .int v18), (0, .ref (A 0)), (1, .int a0)]) rfl (fun ls hl => ?_)
          refine lv_goto hx hb d_M_numberAt_38 (tgt := 6) (by decide) ?_
          exact ih g15 v19 v18 _ _ ls hP hD hS (lv_sub hl [0, 1, 2, 3] rfl) hF
  exact k5 64 g0 v1 0 _ _ ls hP hD hS (lv_sub hl [0, 1, 2, 3] rfl) q20
def f_M_same_36 : Nat → sM → Int32 → Int32 → Option (sM × Int32 × Int32)
  | 0, _, _, _ => none
  | n + 1, g8, u6, u7 => if g8.2.2.2.2.2.2.2.2.2.2.2.1 ≤ u6 then (some (g8, u6, u7)) else (if u7 = 0 then (some (g8, u6, u7)) else (if u6 < 0 ∨ 16 ≤ Int32.toNatClampNeg u6 then none else (if u6 < 0 ∨ 20 ≤ Int32.toNatClampNeg u6 then none else (Option.bind (if (g8.2.2.2.2.2.2.2.2.2.2.2.2 (Int32.toNatClampNeg u6)) = (g8.2.2.2.2.2.2.2.2.2.2.1 (Int32.toNatClampNeg u6)) then (some (1) : Option (Int32)) else (some (0))) (fun j18 => Option.bind (some (u6 + 1)) (fun v22 => f_M_same_36  n g8 v22 j18))))))
def f_M_same (g0 : sM) (a0 : Int32) (a1 : Int32) : Option (Int32 × sM) := if a0 < 0 then (some (0, g0)) else (if 0 ≤ a1 then (Option.bind (f_M_layForm g0 a0 a1) (fun g1 => Option.bind (if g1.2.2.2.2.2.2.2.2.2.2.2.1 = g1.2.2.2.2.2.2.2.2.2.1 then (some (1) : Option (Int32)) else (some (0))) (fun j2 => Option.bind (f_M_same_36  64 g1 0 j2) (fun t24 => match t24 with | (o10, o11, o12) => (if o12 = 0 ∨ o12 = 1 then some (o12, o10) else none))))) else (some (0, g0)))
abbrev rm_M_same : Room := { frames := 3, cells := 0, slots := 0, locals := 65 }
set_option maxHeartbeats 4000000 in
set_option maxRecDepth 100000 in
theorem k_M_same (l : Launch) (D : va_G) (A : Nat → Nat) (cc : Nat → ClassId) (g0 : sM) (a0 : Int32) (a1 : Int32) (sz : Nat) (res : (Int32 × sM)) (hF : f_M_same g0 a0 a1 = some res) : Met l y_M_same (Cond.code y_M_same b_M_same 5 (some .boolean) :: wa) rm_M_same (pw D (wM A cc g0) (kM cc) [.ref (A 0), .int a0, .int a1] sz) (va_Qi (fun r u => (r, u) = res) (bw D (wM A cc) (kM cc) (va_A (wM A cc g0) sz)) (va_A (wM A cc g0) sz)) 0 0 (va_A (wM A cc g0) sz) := by
  refine Met.ofW (cc := b_M_same) (maxL := 5) (ret := (some .boolean)) (by decide) rfl ?_
  intro p e s m args below meth c s₁ B hml hv
  obtain ⟨rfl, hsz, hP, hK, hD0, hN⟩ := hv
  have hx := B.exec
  have hb := B.bytes
  have hr := B.returns
  have hts := atoms_spec (ws := Cond.code y_M_same b_M_same 5 (some .boolean) :: wa) B.pre
  have hw : ∀ w ∈ wa, w.before _ s = true := fun w h => hts w (List.mem_cons_of_mem _ h)
  have hown : s.vm.findClass R_M = some m.cls := findClass_of_methodNamed B.named
  have hlocks := B.notSynchronized
  subst hsz
  have hD := hD0.self (sz := s.heap.size)
  generalize hAe : va_A (wM A cc g0) s.heap.size = AA at hD ⊢
  have hA : ∀ q : Nat, s.heap.size ≤ q → AA q := fun q h => by rw [← hAe]; exact Or.inr h
  have hS : va_S AA s.heap s.heap [] := va_S.rf
  have hl := lv_entry ([.ref (A 0), .int a0, .int a1]) (n := 5) (Nat.le_of_ble_eq_true rfl)
  rw [lg_entry_eq]
  generalize (lg_sl ([.ref (A 0), .int a0, .int a1]) ++ List.replicate (5 - (lg_sl ([.ref (A 0), .int a0, .int a1])).length) Slot.unset).toArray = ls at hl ⊢
  have hl : lv_has ls 5 [(0, .ref (A 0)), (1, .int a0), (2, .int a1)] := hl
  unfold f_M_same at hF
  refine lv_iload_n hx hb d_M_same_0 rfl (lv_at hl 1 rfl) ?_
  refine lv_if_lt hx hb d_M_same_1 (tgt := 8) (by decide) (fun h9 => ?_) (fun h9 => ?_)
  · have hF := (if_pos h9).symm.trans hF
    refine lv_iconst (v := 0) hx hb d_M_same_8 (by decide) ?_
    obtain rfl := Option.some.inj hF
    exact W.zret hx hb hr (by decide) (fun t ht hW => ⟨⟨_, _, rfl, rfl, bw_end hP hK hD ht hW⟩, hS.F ht⟩) hS.2.2 d_M_same_9
  · have hF := (if_neg h9).symm.trans hF
    refine lv_iload_n hx hb d_M_same_4 rfl (lv_at hl 2 rfl) ?_
    refine lv_if_ge hx hb d_M_same_5 (tgt := 10) (by decide) (fun h9 => ?_) (fun h9 => ?_)
    · have hF := (if_pos h9).symm.trans hF
      refine lv_aload_n hx hb d_M_same_10 rfl (lv_at hl 0 rfl) ?_
      refine lv_iload_n hx hb d_M_same_11 rfl (lv_at hl 1 rfl) ?_
      refine lv_iload_n hx hb d_M_same_12 rfl (lv_at hl 2 rfl) ?_
      obtain ⟨g1, e_g1, hF⟩ := Option.bind_eq_some_iff.mp hF
      have hFc := va_free (wc := wM A cc g0) hD hS hA [0, 1, 2, 3, 4, 5, 6, 7, 8] rfl
      refine va_callv (va_runV (As := [.int a0, .int a1]) (rest := []) ⟨hx, hb, hml, hown, hts⟩ (k_M_layForm l D A cc g0 a0 a1 _ g1 e_g1) (cwV 2 hts (ga_V ww_730 ww_732 wp_11 ww_4 ww_733) rfl rfl rfl (by decide +kernel) ⟨by decide, by decide⟩) (pw_pre (q0 := 0) (ci := 3) hP hK hD hN rfl rfl) rfl rfl hl.1 rfl (lv_room (Nat.le_of_ble_eq_true rfl)) d_M_same_13 ⟨Nat.zero_le _, Nat.zero_le _⟩) hS (fun q _ h => hFc q h) hFc (fun u9 t H locs ht hvm hp hB hz1 hk1 hS => ?_)
      obtain rfl : g1 = u9 := hp.symm
      obtain ⟨hP, hD⟩ := bw_back hB ht hFc
      refine lv_aload_n hx hb d_M_same_16 rfl (lv_at hl 0 rfl) ?_
      refine va_get (D := D) (ci := 3) (v := .int g1.2.2.2.2.2.2.2.2.2.2.2.1) (C := R_M) (T := T_M) (N := 13) hx hb hts in_M hown hK hP 0 rfl rfl 11 (by decide) (hw _ ww_545) (fun _ h9 => h9) rfl d_M_same_17 ?_
      refine lv_aload_n hx hb d_M_same_20 rfl (lv_at hl 0 rfl) ?_
      refine va_get (D := D) (ci := 3) (v := .int g1.2.2.2.2.2.2.2.2.2.1) (C := R_M) (T := T_M) (N := 13) hx hb hts in_M hown hK hP 0 rfl rfl 9 (by decide) (hw _ ww_543) (fun _ h9 => h9) rfl d_M_same_21 ?_
      obtain ⟨j2, q4, hF⟩ := Option.bind_eq_some_iff.mp hF
      have k3 : ∀ (H : Heap) (locs : List Loc) (ls : Array Slot), va_P D vwC (wM A cc g1) H → va_D AA (wM A cc g1) → va_S AA s.heap H locs → lv_has ls 5 [(0, .ref (A 0))] → W p l e rm_M_same s m ([Value.ref (A 0), Value.int a0, Value.int a1] : List Value).toArray below meth c H locs 0 0 (MQ below (va_Qi (fun r u => (r, u) = res) (bw D (wM A cc) (kM cc) AA) AA) ([Value.ref (A 0), Value.int a0, Value.int a1] : List Value).toArray s 0 0 AA) (F0 m 32 ls [.int j2]) := by
        intro H locs ls hP hD hS hl
        refine lv_istore_n hx hb d_M_same_32 rfl hl (by decide) (lv' := [(3, .int j2), (0, .ref (A 0))]) rfl (fun ls hl => ?_)
        refine lv_iconst (v := 0) hx hb d_M_same_33 (by decide) ?_
        refine lv_istore hx hb d_M_same_34 hl (by decide) (lv' := [(4, .int 0), (3, .int j2), (0, .ref (A 0))]) rfl (fun ls hl => ?_)
        obtain ⟨⟨o10, o11, o12⟩, q23, hF⟩ := Option.bind_eq_some_iff.mp hF
        have k13 : ∀ (H : Heap) (locs : List Loc) (ls : Array Slot), va_P D vwC (wM A cc o10) H → va_D AA (wM A cc o10) → va_S AA s.heap H locs → lv_has ls 5 [(4, .int o11), (3, .int o12), (0, .ref (A 0))] → W p l e rm_M_same s m ([Value.ref (A 0), Value.int a0, Value.int a1] : List Value).toArray below meth c H locs 0 0 (MQ below (va_Qi (fun r u => (r, u) = res) (bw D (wM A cc) (kM cc) AA) AA) ([Value.ref (A 0), Value.int a0, Value.int a1] : List Value).toArray s 0 0 AA) (F0 m 78 ls []) := by
          intro H locs ls hP hD hS hl
          refine lv_iload_n hx hb d_M_same_78 rfl (lv_at hl 1 rfl) ?_
          by_cases h25 : ¬ (o12 = 0 ∨ o12 = 1)
          · have h0 := (if_neg h25).symm.trans hF; cases h0
          have h25 := Classical.not_not.mp h25
          have hF := (if_pos h25).symm.trans hF
          obtain rfl := Option.some.inj hF
          exact W.zret hx hb hr (nz_b h25) (fun t ht hW => ⟨⟨_, _, rfl, rfl, bw_end hP hK hD ht hW⟩, hS.F ht⟩) hS.2.2 d_M_same_79
        clear hF
        have k9 : ∀ (n : Nat) (g8 : sM) (u6 : Int32) (u7 : Int32) (H : Heap) (locs : List Loc) (ls : Array Slot), va_P D vwC (wM A cc g8) H → va_D AA (wM A cc g8) → va_S AA s.heap H locs → lv_has ls 5 [(4, .int u6), (3, .int u7), (0, .ref (A 0))] → f_M_same_36  n g8 u6 u7 = some (o10, o11, o12) → W p l e rm_M_same s m ([Value.ref (A 0), Value.int a0, Value.int a1] : List Value).toArray below meth c H locs 0 0 (MQ below (va_Qi (fun r u => (r, u) = res) (bw D (wM A cc) (kM cc) AA) AA) ([Value.ref (A 0), Value.int a0, Value.int a1] : List Value).toArray s 0 0 AA) (F0 m 36 ls []) := by
          intro n
          induction n with
          | zero => intro g8 u6 u7 H locs ls hP hD hS hl hF; cases hF
          | succ n ih =>
            intro g8 u6 u7 H locs ls hP hD hS hl hF
            rw [f_M_same_36] at hF
            refine lv_iload hx hb d_M_same_36 (lv_at hl 0 rfl) ?_
            refine lv_aload_n hx hb d_M_same_38 rfl (lv_at hl 2 rfl) ?_
            refine va_get (D := D) (ci := 3) (v := .int g8.2.2.2.2.2.2.2.2.2.2.2.1) (C := R_M) (T := T_M) (N := 13) hx hb hts in_M hown hK hP 0 rfl rfl 11 (by decide) (hw _ ww_545) (fun _ h9 => h9) rfl d_M_same_39 ?_
            refine lv_icmp_ge hx hb d_M_same_42 (tgt := 78) (by decide) (fun h9 => ?_) (fun h9 => ?_)
            · have hF := (if_pos h9).symm.trans hF
              cases Option.some.inj hF
              exact k13 _ _ ls hP hD hS (lv_sub hl [0, 1, 2] rfl)
            · have hF := (if_neg h9).symm.trans hF
              refine lv_iload_n hx hb d_M_same_45 rfl (lv_at hl 1 rfl) ?_
              refine lv_if_eq hx hb d_M_same_46 (tgt := 78) (by decide) (fun h9 => ?_) (fun h9 => ?_)
              · have hF := (if_pos h9).symm.trans hF
                cases Option.some.inj hF
                exact k13 _ _ ls hP hD hS (lv_sub hl [0, 1, 2] rfl)
              · have hF := (if_neg h9).symm.trans hF
                refine lv_aload_n hx hb d_M_same_49 rfl (lv_at hl 2 rfl) ?_
                refine va_get (D := D) (ci := 3) (v := .ref (A 8)) (C := R_M) (T := T_M) (N := 13) hx hb hts in_M hown hK hP 0 rfl rfl 12 (by decide) (hw _ ww_546) (fun _ h9 => h9) rfl d_M_same_50 ?_
                refine lv_iload hx hb d_M_same_53 (lv_at hl 0 rfl) ?_
                by_cases h16 : u6 < 0 ∨ 16 ≤ Int32.toNatClampNeg u6
                · have h0 := (if_pos h16).symm.trans hF; cases h0
                have hF := (if_neg h16).symm.trans hF
                refine va_iald hx hb hK hP 8 7 rfl rfl h16 d_M_same_55 ?_
                refine lv_aload_n hx hb d_M_same_56 rfl (lv_at hl 2 rfl) ?_
                refine va_get (D := D) (ci := 3) (v := .ref (A 7)) (C := R_M) (T := T_M) (N := 13) hx hb hts in_M hown hK hP 0 rfl rfl 10 (by decide) (hw _ ww_544) (fun _ h9 => h9) rfl d_M_same_57 ?_
                refine lv_iload hx hb d_M_same_60 (lv_at hl 0 rfl) ?_
                by_cases h17 : u6 < 0 ∨ 20 ≤ Int32.toNatClampNeg u6
                · have h0 := (if_pos h17).symm.trans hF; cases h0
                have hF := (if_neg h17).symm.trans hF
                refine va_iald hx hb hK hP 7 6 rfl rfl h17 d_M_same_62 ?_
                obtain ⟨j18, q20, hF⟩ := Option.bind_eq_some_iff.mp hF
                have k19 : ∀ (H : Heap) (locs : List Loc) (ls : Array Slot), va_P D vwC (wM A cc g8) H → va_D AA (wM A cc g8) → va_S AA s.heap H locs → lv_has ls 5 [(4, .int u6), (0, .ref (A 0))] → W p l e rm_M_same s m ([Value.ref (A 0), Value.int a0, Value.int a1] : List Value).toArray below meth c H locs 0 0 (MQ below (va_Qi (fun r u => (r, u) = res) (bw D (wM A cc) (kM cc) AA) AA) ([Value.ref (A 0), Value.int a0, Value.int a1] : List Value).toArray s 0 0 AA) (F0 m 71 ls [.int j18]) := by
                  intro H locs ls hP hD hS hl
                  refine lv_istore_n hx hb d_M_same_71 rfl hl (by decide) (lv' := [(3, .int j18), (4, .int u6), (0, .ref (A 0))]) rfl (fun ls hl => ?_)
                  obtain ⟨v22, e_v22, hF⟩ := Option.bind_eq_some_iff.mp hF
                  refine lv_iinc hx hb d_M_same_72 hl (k := 1) (v := v22) rfl ((show _ = u6 + 1 from rfl).trans (Option.some.inj e_v22)) (by decide) (lv' := [(4, .int v22), (3, .int j18), (0, .ref (A 0))]) rfl (fun ls hl => ?_)
                  refine lv_goto hx hb d_M_same_75 (tgt := 36) (by decide) ?_
                  exact ih g8 v22 j18 _ _ ls hP hD hS (lv_sub hl [0, 1, 2] rfl) hF
                clear hF
                have hF := q20
                refine lv_icmp_ne hx hb d_M_same_63 (tgt := 70) (by decide) (fun h9 => ?_) (fun h9 => ?_)
                · have hF := (if_neg h9).symm.trans hF
                  refine lv_iconst (v := 0) hx hb d_M_same_70 (by decide) ?_
                  obtain rfl := Option.some.inj hF
                  exact k19 _ _ ls hP hD hS (lv_sub hl [0, 2] rfl)
                · have hF := (if_pos h9).symm.trans hF
                  refine lv_iconst (v := 1) hx hb d_M_same_66 (by decide) ?_
                  refine lv_goto hx hb d_M_same_67 (tgt := 71) (by decide) ?_
                  obtain rfl := Option.some.inj hF
                  exact k19 _ _ ls hP hD hS (lv_sub hl [0, 2] rfl)
        exact k9 64 g1 0 j2 _ _ ls hP hD hS (lv_sub hl [0, 1, 2] rfl) q23
      clear hF
      have hF := q4
      refine lv_icmp_ne hx hb d_M_same_24 (tgt := 31) (by decide) (fun h9 => ?_) (fun h9 => ?_)
      · have hF := (if_neg h9).symm.trans hF
        refine lv_iconst (v := 0) hx hb d_M_same_31 (by decide) ?_
        obtain rfl := Option.some.inj hF
        exact k3 _ _ ls hP hD hS (lv_sub hl [0] rfl)
      · have hF := (if_pos h9).symm.trans hF
        refine lv_iconst (v := 1) hx hb d_M_same_27 (by decide) ?_
        refine lv_goto hx hb d_M_same_28 (tgt := 32) (by decide) ?_
        obtain rfl := Option.some.inj hF
        exact k3 _ _ ls hP hD hS (lv_sub hl [0] rfl)
    · have hF := (if_neg h9).symm.trans hF
      refine lv_iconst (v := 0) hx hb d_M_same_8 (by decide) ?_
      obtain rfl := Option.some.inj hF
      exact W.zret hx hb hr (by decide) (fun t ht hW => ⟨⟨_, _, rfl, rfl, bw_end hP hK hD ht hW⟩, hS.F ht⟩) hS.2.2 d_M_same_9
def f_M_read (g0 : sM)  : Option (Int64 × sM) := Option.bind (f_M_numberAt (0, g0.2.1, g0.2.2.1, g0.2.2.2.1, g0.2.2.2.2.1, g0.2.2.2.2.2.1, g0.2.2.2.2.2.2.1, g0.2.2.2.2.2.2.2.1, g0.2.2.2.2.2.2.2.2.1, g0.2.2.2.2.2.2.2.2.2.1, g0.2.2.2.2.2.2.2.2.2.2.1, g0.2.2.2.2.2.2.2.2.2.2.2.1, g0.2.2.2.2.2.2.2.2.2.2.2.2) 3) (fun t3 => match t3 with | (r2, g1) => (Option.bind (f_M_byteAt g1 3) (fun t6 => match t6 with | (r5, g4) => (Option.bind (f_M_numberAt g4 (5 + r5)) (fun t9 => match t9 with | (r8, g7) => (Option.bind (f_M_same g7 r2 r8) (fun t12 => match t12 with | (r11, g10) => (Option.bind (if r11 = 0 then (some ((-1)) : Option (Int64)) else (some (((Int32.toInt64 r2) * 4294967296) + (Int32.toInt64 r8)))) (fun j13 => some (j13, (g10.1, g10.2.1, g10.2.2.1, g10.2.2.2.1, g10.2.2.2.2.1, g10.2.2.2.2.2.1, g10.2.2.2.2.2.2.1, g10.2.2.2.2.2.2.2.1, g10.2.2.2.2.2.2.2.2.1, 0, g10.2.2.2.2.2.2.2.2.2.2.1, g10.2.2.2.2.2.2.2.2.2.2.2.1, g10.2.2.2.2.2.2.2.2.2.2.2.2)))))))))))
abbrev rm_M_read : Room := { frames := 4, cells := 0, slots := 0, locals := 89 }
set_option maxHeartbeats 4000000 in
set_option maxRecDepth 100000 in
theorem k_M_read (l : Launch) (D : va_G) (A : Nat → Nat) (cc : Nat → ClassId) (g0 : sM)  (sz : Nat) (res : (Int64 × sM)) (hF : f_M_read g0  = some res) : Met l y_M_read (Cond.code y_M_read b_M_read 4 (some .long) :: wa) rm_M_read (pw D (wM A cc g0) (kM cc) [.ref (A 0)] sz) (va_Ql (fun r u => (r, u) = res) (bw D (wM A cc) (kM cc) (va_A (wM A cc g0) sz)) (va_A (wM A cc g0) sz)) 0 0 (va_A (wM A cc g0) sz) := by
  refine Met.ofW (cc := b_M_read) (maxL := 4) (ret := (some .long)) (by decide) rfl ?_
  intro p e s m args below meth c s₁ B hml hv
  obtain ⟨rfl, hsz, hP, hK, hD0, hN⟩ := hv
  have hx := B.exec
  have hb := B.bytes
  have hr := B.returns
  have hts := atoms_spec (ws := Cond.code y_M_read b_M_read 4 (some .long) :: wa) B.pre
  have hw : ∀ w ∈ wa, w.before _ s = true := fun w h => hts w (List.mem_cons_of_mem _ h)
  have hown : s.vm.findClass R_M = some m.cls := findClass_of_methodNamed B.named
  have hlocks := B.notSynchronized
  subst hsz
  have hD := hD0.self (sz := s.heap.size)
  generalize hAe : va_A (wM A cc g0) s.heap.size = AA at hD ⊢
  have hA : ∀ q : Nat, s.heap.size ≤ q → AA q := fun q h => by rw [← hAe]; exact Or.inr h
  have hS : va_S AA s.heap s.heap [] := va_S.rf
  have hl := lv_entry ([.ref (A 0)]) (n := 4) (Nat.le_of_ble_eq_true rfl)
  rw [lg_entry_eq]
  generalize (lg_sl ([.ref (A 0)]) ++ List.replicate (4 - (lg_sl ([.ref (A 0)])).length) Slot.unset).toArray = ls at hl ⊢
  have hl : lv_has ls 4 [(0, .ref (A 0))] := hl
  unfold f_M_read at hF
  refine lv_aload_n hx hb d_M_read_0 rfl (lv_at hl 0 rfl) ?_
  refine lv_iconst (v := 0) hx hb d_M_read_1 (by decide) ?_
  refine va_put (D := D) (ci := 3) (v := .int 0) (ty := .int) (C := R_M) (T := T_M) (N := 13) hx hb hts in_M ft_M ft_M_ok fn_M hown hK hP hD hS 0 rfl rfl 0 (by decide) (hw _ ww_534) (fun _ h9 => h9) rfl (by decide +kernel) rfl rfl (Nat.le_of_ble_eq_true rfl) d_M_read_2 (fun H locs hP hD hS => ?_)
  have hP : va_P D vwC (wM A cc (0, g0.2.1, g0.2.2.1, g0.2.2.2.1, g0.2.2.2.2.1, g0.2.2.2.2.2.1, g0.2.2.2.2.2.2.1, g0.2.2.2.2.2.2.2.1, g0.2.2.2.2.2.2.2.2.1, g0.2.2.2.2.2.2.2.2.2.1, g0.2.2.2.2.2.2.2.2.2.2.1, g0.2.2.2.2.2.2.2.2.2.2.2.1, g0.2.2.2.2.2.2.2.2.2.2.2.2)) H := hP
  have hD : va_D AA (wM A cc (0, g0.2.1, g0.2.2.1, g0.2.2.2.1, g0.2.2.2.2.1, g0.2.2.2.2.2.1, g0.2.2.2.2.2.2.1, g0.2.2.2.2.2.2.2.1, g0.2.2.2.2.2.2.2.2.1, g0.2.2.2.2.2.2.2.2.2.1, g0.2.2.2.2.2.2.2.2.2.2.1, g0.2.2.2.2.2.2.2.2.2.2.2.1, g0.2.2.2.2.2.2.2.2.2.2.2.2)) := hD
  refine lv_aload_n hx hb d_M_read_5 rfl (lv_at hl 0 rfl) ?_
  refine lv_iconst (v := 3) hx hb d_M_read_6 (by decide) ?_
  obtain ⟨⟨r2, g1⟩, e_g1, hF⟩ := Option.bind_eq_some_iff.mp hF
  have hFc := va_free (wc := wM A cc (0, g0.2.1, g0.2.2.1, g0.2.2.2.1, g0.2.2.2.2.1, g0.2.2.2.2.2.1, g0.2.2.2.2.2.2.1, g0.2.2.2.2.2.2.2.1, g0.2.2.2.2.2.2.2.2.1, g0.2.2.2.2.2.2.2.2.2.1, g0.2.2.2.2.2.2.2.2.2.2.1, g0.2.2.2.2.2.2.2.2.2.2.2.1, g0.2.2.2.2.2.2.2.2.2.2.2.2)) hD hS hA [0, 1, 2, 3, 4, 5, 6, 7, 8] rfl
  refine va_calli (va_runV (As := [.int 3]) (rest := []) ⟨hx, hb, hml, hown, hts⟩ (k_M_numberAt l D A cc (0, g0.2.1, g0.2.2.1, g0.2.2.2.1, g0.2.2.2.2.1, g0.2.2.2.2.2.1, g0.2.2.2.2.2.2.1, g0.2.2.2.2.2.2.2.1, g0.2.2.2.2.2.2.2.2.1, g0.2.2.2.2.2.2.2.2.2.1, g0.2.2.2.2.2.2.2.2.2.2.1, g0.2.2.2.2.2.2.2.2.2.2.2.1, g0.2.2.2.2.2.2.2.2.2.2.2.2) 3 _ (r2, g1) e_g1) (cwV 1 hts (ga_V ww_755 ww_757 wp_14 ww_4 ww_758) rfl rfl rfl (by decide +kernel) ⟨by decide, by decide⟩) (pw_pre (q0 := 0) (ci := 3) hP hK hD hN rfl rfl) rfl rfl hl.1 rfl (lv_room (Nat.le_of_ble_eq_true rfl)) d_M_read_7 ⟨Nat.zero_le _, Nat.zero_le _⟩) hS (fun q _ h => hFc q h) hFc (fun r9 u9 t H locs ht hvm hp hB hz1 hk1 hS => ?_)
  obtain ⟨rfl, rfl⟩ := Prod.mk.inj hp.symm
  obtain ⟨hP, hD⟩ := bw_back hB ht hFc
  refine lv_istore_n hx hb d_M_read_10 rfl hl (by decide) (lv' := [(1, .int r2), (0, .ref (A 0))]) rfl (fun ls hl => ?_)
  refine lv_aload_n hx hb d_M_read_11 rfl (lv_at hl 1 rfl) ?_
  refine lv_iconst (v := 5) hx hb d_M_read_12 (by decide) ?_
  refine lv_aload_n hx hb d_M_read_13 rfl (lv_at hl 1 rfl) ?_
  refine lv_iconst (v := 3) hx hb d_M_read_14 (by decide) ?_
  obtain ⟨⟨r5, g4⟩, e_g4, hF⟩ := Option.bind_eq_some_iff.mp hF
  have hFc := va_free (wc := wM A cc g1) hD hS hA [0, 1, 2, 3, 4, 5, 6, 7, 8] rfl
  refine va_calli (va_runV (As := [.int 3]) (rest := [.int 5, .ref (A 0)]) ⟨hx, hb, hml, hown, hts⟩ (k_M_byteAt l D A cc g1 3 _ (r5, g4) e_g4) (cwV 1 hts (ga_V ww_759 ww_761 wp_15 ww_4 ww_762) rfl rfl rfl (by decide +kernel) ⟨by decide, by decide⟩) (pw_pre (q0 := 0) (ci := 3) hP hK hD hN rfl rfl) rfl rfl hl.1 rfl (lv_room (Nat.le_of_ble_eq_true rfl)) d_M_read_15 ⟨Nat.zero_le _, Nat.zero_le _⟩) hS (fun q _ h => hFc q h) hFc (fun r9 u9 t H locs ht hvm hp hB hz1 hk1 hS => ?_)
  obtain ⟨rfl, rfl⟩ := Prod.mk.inj hp.symm
  obtain ⟨hP, hD⟩ := bw_back hB ht hFc
  refine lv_iadd hx hb d_M_read_18 ?_
  obtain ⟨⟨r8, g7⟩, e_g7, hF⟩ := Option.bind_eq_some_iff.mp hF
  have hFc := va_free (wc := wM A cc g4) hD hS hA [0, 1, 2, 3, 4, 5, 6, 7, 8] rfl
  refine va_calli (va_runV (As := [.int (5 + r5)]) (rest := []) ⟨hx, hb, hml, hown, hts⟩ (k_M_numberAt l D A cc g4 (5 + r5) _ (r8, g7) e_g7) (cwV 1 hts (ga_V ww_755 ww_757 wp_14 ww_4 ww_758) rfl rfl rfl (by decide +kernel) ⟨by decide, by decide⟩) (pw_pre (q0 := 0) (ci := 3) hP hK hD hN rfl rfl) rfl rfl hl.1 rfl (lv_room (Nat.le_of_ble_eq_true rfl)) d_M_read_19 ⟨Nat.zero_le _, Nat.zero_le _⟩) hS (fun q _ h => hFc q h) hFc (fun r9 u9 t H locs ht hvm hp hB hz1 hk1 hS => ?_)
  obtain ⟨rfl, rfl⟩ := Prod.mk.inj hp.symm
  obtain ⟨hP, hD⟩ := bw_back hB ht hFc
  refine lv_istore_n hx hb d_M_read_22 rfl hl (by decide) (lv' := [(2, .int r8), (1, .int r2), (0, .ref (A 0))]) rfl (fun ls hl => ?_)
  refine lv_aload_n hx hb d_M_read_23 rfl (lv_at hl 2 rfl) ?_
  refine lv_iload_n hx hb d_M_read_24 rfl (lv_at hl 1 rfl) ?_
  refine lv_iload_n hx hb d_M_read_25 rfl (lv_at hl 0 rfl) ?_
  obtain ⟨⟨r11, g10⟩, e_g10, hF⟩ := Option.bind_eq_some_iff.mp hF
  have hFc := va_free (wc := wM A cc g7) hD hS hA [0, 1, 2, 3, 4, 5, 6, 7, 8] rfl
  refine va_calli (va_runV (As := [.int r2, .int r8]) (rest := []) ⟨hx, hb, hml, hown, hts⟩ (k_M_same l D A cc g7 r2 r8 _ (r11, g10) e_g10) (cwV 2 hts (ga_V ww_763 ww_765 wp_16 ww_4 ww_766) rfl rfl rfl (by decide +kernel) ⟨by decide, by decide⟩) (pw_pre (q0 := 0) (ci := 3) hP hK hD hN rfl rfl) rfl rfl hl.1 rfl (lv_room (Nat.le_of_ble_eq_true rfl)) d_M_read_26 ⟨Nat.zero_le _, Nat.zero_le _⟩) hS (fun q _ h => hFc q h) hFc (fun r9 u9 t H locs ht hvm hp hB hz1 hk1 hS => ?_)
  obtain ⟨rfl, rfl⟩ := Prod.mk.inj hp.symm
  obtain ⟨hP, hD⟩ := bw_back hB ht hFc
  refine lv_istore_n hx hb d_M_read_29 rfl hl (by decide) (lv' := [(3, .int r11), (2, .int r8), (1, .int r2), (0, .ref (A 0))]) rfl (fun ls hl => ?_)
  refine lv_aload_n hx hb d_M_read_30 rfl (lv_at hl 3 rfl) ?_
  refine lv_iconst (v := 0) hx hb d_M_read_31 (by decide) ?_
  refine va_put (D := D) (ci := 3) (v := .int 0) (ty := .int) (C := R_M) (T := T_M) (N := 13) hx hb hts in_M ft_M ft_M_ok fn_M hown hK hP hD hS 0 rfl rfl 9 (by decide) (hw _ ww_543) (fun _ h9 => h9) rfl (by decide +kernel) rfl rfl (Nat.le_of_ble_eq_true rfl) d_M_read_32 (fun H locs hP hD hS => ?_)
  have hP : va_P D vwC (wM A cc (g10.1, g10.2.1, g10.2.2.1, g10.2.2.2.1, g10.2.2.2.2.1, g10.2.2.2.2.2.1, g10.2.2.2.2.2.2.1, g10.2.2.2.2.2.2.2.1, g10.2.2.2.2.2.2.2.2.1, 0, g10.2.2.2.2.2.2.2.2.2.2.1, g10.2.2.2.2.2.2.2.2.2.2.2.1, g10.2.2.2.2.2.2.2.2.2.2.2.2)) H := hP
  have hD : va_D AA (wM A cc (g10.1, g10.2.1, g10.2.2.1, g10.2.2.2.1, g10.2.2.2.2.1, g10.2.2.2.2.2.1, g10.2.2.2.2.2.2.1, g10.2.2.2.2.2.2.2.1, g10.2.2.2.2.2.2.2.2.1, 0, g10.2.2.2.2.2.2.2.2.2.2.1, g10.2.2.2.2.2.2.2.2.2.2.2.1, g10.2.2.2.2.2.2.2.2.2.2.2.2)) := hD
  refine lv_iload_n hx hb d_M_read_35 rfl (lv_at hl 0 rfl) ?_
  obtain ⟨j13, q15, hF⟩ := Option.bind_eq_some_iff.mp hF
  have k14 : ∀ (H : Heap) (locs : List Loc) (ls : Array Slot), va_P D vwC (wM A cc (g10.1, g10.2.1, g10.2.2.1, g10.2.2.2.1, g10.2.2.2.2.1, g10.2.2.2.2.2.1, g10.2.2.2.2.2.2.1, g10.2.2.2.2.2.2.2.1, g10.2.2.2.2.2.2.2.2.1, 0, g10.2.2.2.2.2.2.2.2.2.2.1, g10.2.2.2.2.2.2.2.2.2.2.2.1, g10.2.2.2.2.2.2.2.2.2.2.2.2)) H → va_D AA (wM A cc (g10.1, g10.2.1, g10.2.2.1, g10.2.2.2.1, g10.2.2.2.2.1, g10.2.2.2.2.2.1, g10.2.2.2.2.2.2.1, g10.2.2.2.2.2.2.2.1, g10.2.2.2.2.2.2.2.2.1, 0, g10.2.2.2.2.2.2.2.2.2.2.1, g10.2.2.2.2.2.2.2.2.2.2.2.1, g10.2.2.2.2.2.2.2.2.2.2.2.2)) → va_S AA s.heap H locs → lv_has ls 4 [] → W p l e rm_M_read s m ([Value.ref (A 0)] : List Value).toArray below meth c H locs 0 0 (MQ below (va_Ql (fun r u => (r, u) = res) (bw D (wM A cc) (kM cc) AA) AA) ([Value.ref (A 0)] : List Value).toArray s 0 0 AA) (F0 m 54 ls [.long j13]) := by
    intro H locs ls hP hD hS hl
    obtain rfl := Option.some.inj hF
    exact W.lret hx hb hr (fun t ht hW => ⟨⟨_, _, rfl, rfl, bw_end hP hK hD ht hW⟩, hS.F ht⟩) hS.2.2 d_M_read_54
  clear hF
  have hF := q15
  refine lv_if_eq hx hb d_M_read_36 (tgt := 51) (by decide) (fun h9 => ?_) (fun h9 => ?_)
  · have hF := (if_pos h9).symm.trans hF
    refine lv_ldc2 (v := (-1)) hx hb hown (hw _ ww_533) d_M_read_51 ?_
    obtain rfl := Option.some.inj hF
    exact k14 _ _ ls hP hD hS (lv_sub hl [] rfl)
  · have hF := (if_neg h9).symm.trans hF
    refine lv_iload_n hx hb d_M_read_39 rfl (lv_at hl 2 rfl) ?_
    refine lv_i2l (v := Int32.toInt64 r2) hx hb d_M_read_40 rfl ?_
    refine lv_ldc2 (v := 4294967296) hx hb hown (hw _ ww_618) d_M_read_41 ?_
    refine lv_lmul hx hb d_M_read_44 ?_
    refine lv_iload_n hx hb d_M_read_45 rfl (lv_at hl 1 rfl) ?_
    refine lv_i2l (v := Int32.toInt64 r8) hx hb d_M_read_46 rfl ?_
    refine lv_ladd hx hb d_M_read_47 ?_
    refine lv_goto hx hb d_M_read_48 (tgt := 54) (by decide) ?_
    obtain rfl := Option.some.inj hF
    exact k14 _ _ ls hP hD hS (lv_sub hl [] rfl)
