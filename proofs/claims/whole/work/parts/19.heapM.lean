def f_M_thrown (g0 : sM)  : Option (Int32 × sM) := some (g0.1, g0)
abbrev rm_M_thrown : Room := { frames := 0, cells := 0, slots := 0, locals := 0 }
set_option maxHeartbeats 4000000 in
set_option maxRecDepth 100000 in
theorem k_M_thrown (l : Launch) (D : va_G) (A : Nat → Nat) (cc : Nat → ClassId) (g0 : sM)  (sz : Nat) (res : (Int32 × sM)) (hF : f_M_thrown g0  = some res) : Met l y_M_thrown (Cond.code y_M_thrown b_M_thrown 1 (some .int) :: wa) rm_M_thrown (pw D (wM A cc g0) (kM cc) [.ref (A 0)] sz) (va_Qi (fun r u => (r, u) = res) (bw D (wM A cc) (kM cc) (va_A (wM A cc g0) sz)) (va_A (wM A cc g0) sz)) 0 0 (va_A (wM A cc g0) sz) := by
  refine Met.ofW (cc := b_M_thrown) (maxL := 1) (ret := (some .int)) (by decide) rfl ?_
  intro p e s m args below meth c s₁ B hml hv
  obtain ⟨rfl, hsz, hP, hK, hD0, hN⟩ := hv
  have hx := B.exec
  have hb := B.bytes
  have hr := B.returns
  have hts := atoms_spec (ws := Cond.code y_M_thrown b_M_thrown 1 (some .int) :: wa) B.pre
  have hw : ∀ w ∈ wa, w.before _ s = true := fun w h => hts w (List.mem_cons_of_mem _ h)
  have hown : s.vm.findClass R_M = some m.cls := findClass_of_methodNamed B.named
  have hlocks := B.notSynchronized
  subst hsz
  have hD := hD0.self (sz := s.heap.size)
  generalize hAe : va_A (wM A cc g0) s.heap.size = AA at hD ⊢
  have hA : ∀ q : Nat, s.heap.size ≤ q → AA q := fun q h => by rw [← hAe]; exact Or.inr h
  have hS : va_S AA s.heap s.heap [] := va_S.rf
  have hl := lv_entry ([.ref (A 0)]) (n := 1) (Nat.le_of_ble_eq_true rfl)
  rw [lg_entry_eq]
  generalize (lg_sl ([.ref (A 0)]) ++ List.replicate (1 - (lg_sl ([.ref (A 0)])).length) Slot.unset).toArray = ls at hl ⊢
  have hl : lv_has ls 1 [(0, .ref (A 0))] := hl
  unfold f_M_thrown at hF
  refine lv_aload_n hx hb d_M_thrown_0 rfl (lv_at hl 0 rfl) ?_
  refine va_get (D := D) (ci := 3) (v := .int g0.1) (C := R_M) (T := T_M) (N := 13) hx hb hts in_M hown hK hP 0 rfl rfl 0 (by decide) (hw _ ww_534) (fun _ h9 => h9) rfl d_M_thrown_1 ?_
  obtain rfl := Option.some.inj hF
  exact W.iret hx hb hr (fun t ht hW => ⟨⟨_, _, rfl, rfl, bw_end hP hK hD ht hW⟩, hS.F ht⟩) hS.2.2 d_M_thrown_4
def f_M_full (g0 : sM) (a0 : Int32) : Option (Int32 × sM) := if a0 < 0 ∨ 6 ≤ Int32.toNatClampNeg a0 then none else (Option.bind (if (lg_cmp (g0.2.1 (Int32.toNatClampNeg a0)) (-1)) = 0 then (some (0) : Option (Int32)) else (some (1))) (fun j2 => some (j2, g0)))
abbrev rm_M_full : Room := { frames := 0, cells := 0, slots := 0, locals := 0 }
set_option maxHeartbeats 4000000 in
set_option maxRecDepth 100000 in
theorem k_M_full (l : Launch) (D : va_G) (A : Nat → Nat) (cc : Nat → ClassId) (g0 : sM) (a0 : Int32) (sz : Nat) (res : (Int32 × sM)) (hF : f_M_full g0 a0 = some res) : Met l y_M_full (Cond.code y_M_full b_M_full 2 (some .boolean) :: wa) rm_M_full (pw D (wM A cc g0) (kM cc) [.ref (A 0), .int a0] sz) (va_Qi (fun r u => (r, u) = res) (bw D (wM A cc) (kM cc) (va_A (wM A cc g0) sz)) (va_A (wM A cc g0) sz)) 0 0 (va_A (wM A cc g0) sz) := by
  refine Met.ofW (cc := b_M_full) (maxL := 2) (ret := (some .boolean)) (by decide) rfl ?_
  intro p e s m args below meth c s₁ B hml hv
  obtain ⟨rfl, hsz, hP, hK, hD0, hN⟩ := hv
  have hx := B.exec
  have hb := B.bytes
  have hr := B.returns
  have hts := atoms_spec (ws := Cond.code y_M_full b_M_full 2 (some .boolean) :: wa) B.pre
  have hw : ∀ w ∈ wa, w.before _ s = true := fun w h => hts w (List.mem_cons_of_mem _ h)
  have hown : s.vm.findClass R_M = some m.cls := findClass_of_methodNamed B.named
  have hlocks := B.notSynchronized
  subst hsz
  have hD := hD0.self (sz := s.heap.size)
  generalize hAe : va_A (wM A cc g0) s.heap.size = AA at hD ⊢
  have hA : ∀ q : Nat, s.heap.size ≤ q → AA q := fun q h => by rw [← hAe]; exact Or.inr h
  have hS : va_S AA s.heap s.heap [] := va_S.rf
  have hl := lv_entry ([.ref (A 0), .int a0]) (n := 2) (Nat.le_of_ble_eq_true rfl)
  rw [lg_entry_eq]
  generalize (lg_sl ([.ref (A 0), .int a0]) ++ List.replicate (2 - (lg_sl ([.ref (A 0), .int a0])).length) Slot.unset).toArray = ls at hl ⊢
  have hl : lv_has ls 2 [(0, .ref (A 0)), (1, .int a0)] := hl
  unfold f_M_full at hF
  refine lv_aload_n hx hb d_M_full_0 rfl (lv_at hl 0 rfl) ?_
  refine va_get (D := D) (ci := 3) (v := .ref (A 1)) (C := R_M) (T := T_M) (N := 13) hx hb hts in_M hown hK hP 0 rfl rfl 1 (by decide) (hw _ ww_535) (fun _ h9 => h9) rfl d_M_full_1 ?_
  refine lv_iload_n hx hb d_M_full_4 rfl (lv_at hl 1 rfl) ?_
  by_cases h1 : a0 < 0 ∨ 6 ≤ Int32.toNatClampNeg a0
  · rw [if_pos h1] at hF; cases hF
  have hF := (if_neg h1).symm.trans hF
  refine va_lald hx hb hK hP 1 0 rfl rfl h1 d_M_full_5 ?_
  refine lv_ldc2 (v := (-1)) hx hb hown (hw _ ww_533) d_M_full_6 ?_
  refine W.lcmp hx hb d_M_full_9 ?_
  obtain ⟨j2, q4, hF⟩ := Option.bind_eq_some_iff.mp hF
  have z_j2 : j2 = 0 ∨ j2 = 1 := by
    have h := q4
    (repeat' (split at h)) <;> (obtain rfl := Option.some.inj h; first | exact Or.inl rfl | exact Or.inr rfl)
  have k3 : ∀ (H : Heap) (locs : List Loc) (ls : Array Slot), va_P D vwC (wM A cc g0) H → va_D AA (wM A cc g0) → va_S AA s.heap H locs → lv_has ls 2 [] → W p l e rm_M_full s m ([Value.ref (A 0), Value.int a0] : List Value).toArray below meth c H locs 0 0 (MQ below (va_Qi (fun r u => (r, u) = res) (bw D (wM A cc) (kM cc) AA) AA) ([Value.ref (A 0), Value.int a0] : List Value).toArray s 0 0 AA) (F0 m 18 ls [.int j2]) := by
    intro H locs ls hP hD hS hl
    obtain rfl := Option.some.inj hF
    exact W.zret hx hb hr (nz_b z_j2) (fun t ht hW => ⟨⟨_, _, rfl, rfl, bw_end hP hK hD ht hW⟩, hS.F ht⟩) hS.2.2 d_M_full_18
  clear hF
  have hF := q4
  refine lv_if_eq hx hb d_M_full_10 (tgt := 17) (by decide) (fun h9 => ?_) (fun h9 => ?_)
  · have hF := (if_pos h9).symm.trans hF
    refine lv_iconst (v := 0) hx hb d_M_full_17 (by decide) ?_
    obtain rfl := Option.some.inj hF
    exact k3 _ _ ls hP hD hS (lv_sub hl [] rfl)
  · have hF := (if_neg h9).symm.trans hF
    refine lv_iconst (v := 1) hx hb d_M_full_13 (by decide) ?_
    refine lv_goto hx hb d_M_full_14 (tgt := 18) (by decide) ?_
    obtain rfl := Option.some.inj hF
    exact k3 _ _ ls hP hD hS (lv_sub hl [] rfl)
def f_M_lay (g0 : sM) (a0 : Int32) (a1 : Int64) : Option sM := if a0 < 0 ∨ 6 ≤ Int32.toNatClampNeg a0 then none else (if a0 < 0 ∨ 6 ≤ Int32.toNatClampNeg a0 then none else (some ((g0.1, (vp_updL g0.2.1 (Int32.toNatClampNeg a0) a1), (vp_updL g0.2.2.1 (Int32.toNatClampNeg a0) 0), g0.2.2.2.1, g0.2.2.2.2.1, g0.2.2.2.2.2.1, g0.2.2.2.2.2.2.1, g0.2.2.2.2.2.2.2.1, g0.2.2.2.2.2.2.2.2.1, g0.2.2.2.2.2.2.2.2.2.1, g0.2.2.2.2.2.2.2.2.2.2.1, g0.2.2.2.2.2.2.2.2.2.2.2.1, g0.2.2.2.2.2.2.2.2.2.2.2.2))))
abbrev rm_M_lay : Room := { frames := 0, cells := 0, slots := 0, locals := 0 }
set_option maxHeartbeats 4000000 in
set_option maxRecDepth 100000 in
theorem k_M_lay (l : Launch) (D : va_G) (A : Nat → Nat) (cc : Nat → ClassId) (g0 : sM) (a0 : Int32) (a1 : Int64) (sz : Nat) (res : sM) (hF : f_M_lay g0 a0 a1 = some res) : Met l y_M_lay (Cond.code y_M_lay b_M_lay 4 none :: wa) rm_M_lay (pw D (wM A cc g0) (kM cc) [.ref (A 0), .int a0, .long a1] sz) (va_Qv (fun u => u = res) (bw D (wM A cc) (kM cc) (va_A (wM A cc g0) sz)) (va_A (wM A cc g0) sz)) 0 0 (va_A (wM A cc g0) sz) := by
  refine Met.ofW (cc := b_M_lay) (maxL := 4) (ret := none) (by decide) rfl ?_
  intro p e s m args below meth c s₁ B hml hv
  obtain ⟨rfl, hsz, hP, hK, hD0, hN⟩ := hv
  have hx := B.exec
  have hb := B.bytes
  have hr := B.returns
  have hts := atoms_spec (ws := Cond.code y_M_lay b_M_lay 4 none :: wa) B.pre
  have hw : ∀ w ∈ wa, w.before _ s = true := fun w h => hts w (List.mem_cons_of_mem _ h)
  have hown : s.vm.findClass R_M = some m.cls := findClass_of_methodNamed B.named
  have hlocks := B.notSynchronized
  subst hsz
  have hD := hD0.self (sz := s.heap.size)
  generalize hAe : va_A (wM A cc g0) s.heap.size = AA at hD ⊢
  have hA : ∀ q : Nat, s.heap.size ≤ q → AA q := fun q h => by rw [← hAe]; exact Or.inr h
  have hS : va_S AA s.heap s.heap [] := va_S.rf
  have hl := lv_entry ([.ref (A 0), .int a0, .long a1]) (n := 4) (Nat.le_of_ble_eq_true rfl)
  rw [lg_entry_eq]
  generalize (lg_sl ([.ref (A 0), .int a0, .long a1]) ++ List.replicate (4 - (lg_sl ([.ref (A 0), .int a0, .long a1])).length) Slot.unset).toArray = ls at hl ⊢
  have hl : lv_has ls 4 [(0, .ref (A 0)), (1, .int a0), (2, .long a1)] := hl
  unfold f_M_lay at hF
  refine lv_aload_n hx hb d_M_lay_0 rfl (lv_at hl 0 rfl) ?_
  refine va_get (D := D) (ci := 3) (v := .ref (A 1)) (C := R_M) (T := T_M) (N := 13) hx hb hts in_M hown hK hP 0 rfl rfl 1 (by decide) (hw _ ww_535) (fun _ h9 => h9) rfl d_M_lay_1 ?_
  refine lv_iload_n hx hb d_M_lay_4 rfl (lv_at hl 1 rfl) ?_
  refine lv_lload_n hx hb d_M_lay_5 rfl (lv_at hl 2 rfl) ?_
  by_cases h1 : a0 < 0 ∨ 6 ≤ Int32.toNatClampNeg a0
  · rw [if_pos h1] at hF; cases hF
  have hF := (if_neg h1).symm.trans hF
  refine va_last hx hb hK hP hD hS 1 0 rfl rfl h1 d_M_lay_6 (fun H locs hP hD hS => ?_)
  have hP : va_P D vwC (wM A cc (g0.1, (vp_updL g0.2.1 (Int32.toNatClampNeg a0) a1), g0.2.2.1, g0.2.2.2.1, g0.2.2.2.2.1, g0.2.2.2.2.2.1, g0.2.2.2.2.2.2.1, g0.2.2.2.2.2.2.2.1, g0.2.2.2.2.2.2.2.2.1, g0.2.2.2.2.2.2.2.2.2.1, g0.2.2.2.2.2.2.2.2.2.2.1, g0.2.2.2.2.2.2.2.2.2.2.2.1, g0.2.2.2.2.2.2.2.2.2.2.2.2)) H := hP
  have hD : va_D AA (wM A cc (g0.1, (vp_updL g0.2.1 (Int32.toNatClampNeg a0) a1), g0.2.2.1, g0.2.2.2.1, g0.2.2.2.2.1, g0.2.2.2.2.2.1, g0.2.2.2.2.2.2.1, g0.2.2.2.2.2.2.2.1, g0.2.2.2.2.2.2.2.2.1, g0.2.2.2.2.2.2.2.2.2.1, g0.2.2.2.2.2.2.2.2.2.2.1, g0.2.2.2.2.2.2.2.2.2.2.2.1, g0.2.2.2.2.2.2.2.2.2.2.2.2)) := hD
  refine lv_aload_n hx hb d_M_lay_7 rfl (lv_at hl 0 rfl) ?_
  refine va_get (D := D) (ci := 3) (v := .ref (A 2)) (C := R_M) (T := T_M) (N := 13) hx hb hts in_M hown hK hP 0 rfl rfl 2 (by decide) (hw _ ww_536) (fun _ h9 => h9) rfl d_M_lay_8 ?_
  refine lv_iload_n hx hb d_M_lay_11 rfl (lv_at hl 1 rfl) ?_
  refine lv_lconst (v := 0) hx hb d_M_lay_12 (by decide) ?_
  by_cases h2 : a0 < 0 ∨ 6 ≤ Int32.toNatClampNeg a0
  · rw [if_pos h2] at hF; cases hF
  have hF := (if_neg h2).symm.trans hF
  refine va_last hx hb hK hP hD hS 2 1 rfl rfl h2 d_M_lay_13 (fun H locs hP hD hS => ?_)
  have hP : va_P D vwC (wM A cc (g0.1, (vp_updL g0.2.1 (Int32.toNatClampNeg a0) a1), (vp_updL g0.2.2.1 (Int32.toNatClampNeg a0) 0), g0.2.2.2.1, g0.2.2.2.2.1, g0.2.2.2.2.2.1, g0.2.2.2.2.2.2.1, g0.2.2.2.2.2.2.2.1, g0.2.2.2.2.2.2.2.2.1, g0.2.2.2.2.2.2.2.2.2.1, g0.2.2.2.2.2.2.2.2.2.2.1, g0.2.2.2.2.2.2.2.2.2.2.2.1, g0.2.2.2.2.2.2.2.2.2.2.2.2)) H := hP
  have hD : va_D AA (wM A cc (g0.1, (vp_updL g0.2.1 (Int32.toNatClampNeg a0) a1), (vp_updL g0.2.2.1 (Int32.toNatClampNeg a0) 0), g0.2.2.2.1, g0.2.2.2.2.1, g0.2.2.2.2.2.1, g0.2.2.2.2.2.2.1, g0.2.2.2.2.2.2.2.1, g0.2.2.2.2.2.2.2.2.1, g0.2.2.2.2.2.2.2.2.2.1, g0.2.2.2.2.2.2.2.2.2.2.1, g0.2.2.2.2.2.2.2.2.2.2.2.1, g0.2.2.2.2.2.2.2.2.2.2.2.2)) := hD
  obtain rfl := Option.some.inj hF
  exact W.vret hx hb hr (fun t ht hW => ⟨⟨_, rfl, rfl, bw_end hP hK hD ht hW⟩, hS.F ht⟩) hS.2.2 d_M_lay_14
def f_M_noSecret (g0 : sM) (a0 : Int32) : Option (Int32 × sM) := Option.bind (f_M_isSlot a0) (fun r1 => Option.bind (if r1 = 0 then (some (1) : Option (Int32)) else (if a0 < 0 ∨ 6 ≤ Int32.toNatClampNeg a0 then none else (if (lg_cmp (g0.2.2.1 (Int32.toNatClampNeg a0)) 0) = 0 then (some (2)) else (some (0))))) (fun j2 => some (j2, g0)))
abbrev rm_M_noSecret : Room := { frames := 1, cells := 0, slots := 0, locals := 20 }
set_option maxHeartbeats 4000000 in
set_option maxRecDepth 100000 in
theorem k_M_noSecret (l : Launch) (D : va_G) (A : Nat → Nat) (cc : Nat → ClassId) (g0 : sM) (a0 : Int32) (sz : Nat) (res : (Int32 × sM)) (hF : f_M_noSecret g0 a0 = some res) : Met l y_M_noSecret (Cond.code y_M_noSecret b_M_noSecret 2 (some .int) :: wa) rm_M_noSecret (pw D (wM A cc g0) (kM cc) [.ref (A 0), .int a0] sz) (va_Qi (fun r u => (r, u) = res) (bw D (wM A cc) (kM cc) (va_A (wM A cc g0) sz)) (va_A (wM A cc g0) sz)) 0 0 (va_A (wM A cc g0) sz) := by
  refine Met.ofW (cc := b_M_noSecret) (maxL := 2) (ret := (some .int)) (by decide) rfl ?_
  intro p e s m args below meth c s₁ B hml hv
  obtain ⟨rfl, hsz, hP, hK, hD0, hN⟩ := hv
  have hx := B.exec
  have hb := B.bytes
  have hr := B.returns
  have hts := atoms_spec (ws := Cond.code y_M_noSecret b_M_noSecret 2 (some .int) :: wa) B.pre
  have hw : ∀ w ∈ wa, w.before _ s = true := fun w h => hts w (List.mem_cons_of_mem _ h)
  have hown : s.vm.findClass R_M = some m.cls := findClass_of_methodNamed B.named
  have hlocks := B.notSynchronized
  subst hsz
  have hD := hD0.self (sz := s.heap.size)
  generalize hAe : va_A (wM A cc g0) s.heap.size = AA at hD ⊢
  have hA : ∀ q : Nat, s.heap.size ≤ q → AA q := fun q h => by rw [← hAe]; exact Or.inr h
  have hS : va_S AA s.heap s.heap [] := va_S.rf
  have hl := lv_entry ([.ref (A 0), .int a0]) (n := 2) (Nat.le_of_ble_eq_true rfl)
  rw [lg_entry_eq]
  generalize (lg_sl ([.ref (A 0), .int a0]) ++ List.replicate (2 - (lg_sl ([.ref (A 0), .int a0])).length) Slot.unset).toArray = ls at hl ⊢
  have hl : lv_has ls 2 [(0, .ref (A 0)), (1, .int a0)] := hl
  unfold f_M_noSecret at hF
  refine lv_iload_n hx hb d_M_noSecret_0 rfl (lv_at hl 1 rfl) ?_
  obtain ⟨r1, e_r1, hF⟩ := Option.bind_eq_some_iff.mp hF
  refine vp_callSi (va_runS (As := [.int a0]) (rest := []) ⟨hx, hb, hml, hown, hts⟩ (k_M_isSlot l a0 r1 e_r1) (va_cwS 1 hts (ga_S ww_582 ww_583 ww_4 ww_584) rfl rfl rfl (by decide +kernel) ⟨by decide, by decide⟩) (pcs_pre hN) rfl rfl hl.1 rfl (lv_room (Nat.le_of_ble_eq_true rfl)) d_M_noSecret_1 ⟨Nat.zero_le _, Nat.zero_le _⟩).run (fun z9 hz9 => ?_)
  obtain rfl : r1 = z9 := hz9.symm
  obtain ⟨j2, q4, hF⟩ := Option.bind_eq_some_iff.mp hF
  have k3 : ∀ (H : Heap) (locs : List Loc) (ls : Array Slot), va_P D vwC (wM A cc g0) H → va_D AA (wM A cc g0) → va_S AA s.heap H locs → lv_has ls 2 [] → W p l e rm_M_noSecret s m ([Value.ref (A 0), Value.int a0] : List Value).toArray below meth c H locs 0 0 (MQ below (va_Qi (fun r u => (r, u) = res) (bw D (wM A cc) (kM cc) AA) AA) ([Value.ref (A 0), Value.int a0] : List Value).toArray s 0 0 AA) (F0 m 27 ls [.int j2]) := by
    intro H locs ls hP hD hS hl
    obtain rfl := Option.some.inj hF
    exact W.iret hx hb hr (fun t ht hW => ⟨⟨_, _, rfl, rfl, bw_end hP hK hD ht hW⟩, hS.F ht⟩) hS.2.2 d_M_noSecret_27
  clear hF
  have hF := q4
  refine lv_if_ne hx hb d_M_noSecret_4 (tgt := 11) (by decide) (fun h9 => ?_) (fun h9 => ?_)
  · have hF := (if_neg h9).symm.trans hF
    refine lv_aload_n hx hb d_M_noSecret_11 rfl (lv_at hl 0 rfl) ?_
    refine va_get (D := D) (ci := 3) (v := .ref (A 2)) (C := R_M) (T := T_M) (N := 13) hx hb hts in_M hown hK hP 0 rfl rfl 2 (by decide) (hw _ ww_536) (fun _ h9 => h9) rfl d_M_noSecret_12 ?_
    refine lv_iload_n hx hb d_M_noSecret_15 rfl (lv_at hl 1 rfl) ?_
    by_cases h6 : a0 < 0 ∨ 6 ≤ Int32.toNatClampNeg a0
    · rw [if_pos h6] at hF; cases hF
    have hF := (if_neg h6).symm.trans hF
    refine va_lald hx hb hK hP 2 1 rfl rfl h6 d_M_noSecret_16 ?_
    refine lv_lconst (v := 0) hx hb d_M_noSecret_17 (by decide) ?_
    refine W.lcmp hx hb d_M_noSecret_18 ?_
    refine lv_if_ne hx hb d_M_noSecret_19 (tgt := 26) (by decide) (fun h9 => ?_) (fun h9 => ?_)
    · have hF := (if_neg h9).symm.trans hF
      refine lv_iconst (v := 0) hx hb d_M_noSecret_26 (by decide) ?_
      obtain rfl := Option.some.inj hF
      exact k3 _ _ ls hP hD hS (lv_sub hl [] rfl)
    · have hF := (if_pos h9).symm.trans hF
      refine lv_iconst (v := 2) hx hb d_M_noSecret_22 (by decide) ?_
      refine lv_goto hx hb d_M_noSecret_23 (tgt := 27) (by decide) ?_
      obtain rfl := Option.some.inj hF
      exact k3 _ _ ls hP hD hS (lv_sub hl [] rfl)
  · have hF := (if_pos h9).symm.trans hF
    refine lv_iconst (v := 1) hx hb d_M_noSecret_7 (by decide) ?_
    refine lv_goto hx hb d_M_noSecret_8 (tgt := 27) (by decide) ?_
    obtain rfl := Option.some.inj hF
    exact k3 _ _ ls hP hD hS (lv_sub hl [] rfl)
def f_M_secret (g0 : sM) (a0 : Int32) (a1 : Int32) : Option (Int64 × sM) := Option.bind (f_M_isSlot a0) (fun r1 => Option.bind (if r1 = 0 then (some (1) : Option (Int32)) else (if a1 < 1 then (some (2)) else (if (lg_cmp (Int32.toInt64 a1) 1073729077) < 0 then (some (0)) else (some (2))))) (fun j2 => if j2 = 0 then (if a0 < 0 ∨ 6 ≤ Int32.toNatClampNeg a0 then none else (Option.bind (f_M_g ) (fun r7 => Option.bind (f_M_times (Int32.toInt64 a1) r7) (fun r8 => if a0 < 0 ∨ 6 ≤ Int32.toNatClampNeg a0 then none else (if a0 < 0 ∨ 6 ≤ Int32.toNatClampNeg a0 then none else (Option.bind (f_M_codeOf ((vp_updL g0.2.1 (Int32.toNatClampNeg a0) r8) (Int32.toNatClampNeg a0))) (fun r11 => some (r11, (j2, (vp_updL g0.2.1 (Int32.toNatClampNeg a0) r8), (vp_updL g0.2.2.1 (Int32.toNatClampNeg a0) (Int32.toInt64 a1)), g0.2.2.2.1, g0.2.2.2.2.1, g0.2.2.2.2.2.1, g0.2.2.2.2.2.2.1, g0.2.2.2.2.2.2.2.1, g0.2.2.2.2.2.2.2.2.1, g0.2.2.2.2.2.2.2.2.2.1, g0.2.2.2.2.2.2.2.2.2.2.1, g0.2.2.2.2.2.2.2.2.2.2.2.1, g0.2.2.2.2.2.2.2.2.2.2.2.2))))))))) else (some (0, (j2, g0.2.1, g0.2.2.1, g0.2.2.2.1, g0.2.2.2.2.1, g0.2.2.2.2.2.1, g0.2.2.2.2.2.2.1, g0.2.2.2.2.2.2.2.1, g0.2.2.2.2.2.2.2.2.1, g0.2.2.2.2.2.2.2.2.2.1, g0.2.2.2.2.2.2.2.2.2.2.1, g0.2.2.2.2.2.2.2.2.2.2.2.1, g0.2.2.2.2.2.2.2.2.2.2.2.2)))))
abbrev rm_M_secret : Room := { frames := 5, cells := 0, slots := 0, locals := 147 }
set_option maxHeartbeats 4000000 in
set_option maxRecDepth 100000 in
theorem k_M_secret (l : Launch) (D : va_G) (A : Nat → Nat) (cc : Nat → ClassId) (g0 : sM) (a0 : Int32) (a1 : Int32) (sz : Nat) (res : (Int64 × sM)) (hF : f_M_secret g0 a0 a1 = some res) : Met l y_M_secret (Cond.code y_M_secret b_M_secret 3 (some .long) :: wa) rm_M_secret (pw D (wM A cc g0) (kM cc) [.ref (A 0), .int a0, .int a1] sz) (va_Ql (fun r u => (r, u) = res) (bw D (wM A cc) (kM cc) (va_A (wM A cc g0) sz)) (va_A (wM A cc g0) sz)) 0 0 (va_A (wM A cc g0) sz) := by
  refine Met.ofW (cc := b_M_secret) (maxL := 3) (ret := (some .long)) (by decide) rfl ?_
  intro p e s m args below meth c s₁ B hml hv
  obtain ⟨rfl, hsz, hP, hK, hD0, hN⟩ := hv
  have hx := B.exec
  have hb := B.bytes
  have hr := B.returns
  have hts := atoms_spec (ws := Cond.code y_M_secret b_M_secret 3 (some .long) :: wa) B.pre
  have hw : ∀ w ∈ wa, w.before _ s = true := fun w h => hts w (List.mem_cons_of_mem _ h)
  have hown : s.vm.findClass R_M = some m.cls := findClass_of_methodNamed B.named
  have hlocks := B.notSynchronized
  subst hsz
  have hD := hD0.self (sz := s.heap.size)
  generalize hAe : va_A (wM A cc g0) s.heap.size = AA at hD ⊢
  have hA : ∀ q : Nat, s.heap.size ≤ q → AA q := fun q h => by rw [← hAe]; exact Or.inr h
  have hS : va_S AA s.heap s.heap [] := va_S.rf
  have hl := lv_entry ([.ref (A 0), .int a0, .int a1]) (n := 3) (Nat.le_of_ble_eq_true rfl)
  rw [lg_entry_eq]
  generalize (lg_sl ([.ref (A 0), .int a0, .int a1]) ++ List.replicate (3 - (lg_sl ([.ref (A 0), .int a0, .int a1])).length) Slot.unset).toArray = ls at hl ⊢
  have hl : lv_has ls 3 [(0, .ref (A 0)), (1, .int a0), (2, .int a1)] := hl
  unfold f_M_secret at hF
  refine lv_aload_n hx hb d_M_secret_0 rfl (lv_at hl 0 rfl) ?_
  refine lv_iload_n hx hb d_M_secret_1 rfl (lv_at hl 1 rfl) ?_
  obtain ⟨r1, e_r1, hF⟩ := Option.bind_eq_some_iff.mp hF
  refine vp_callSi (va_runS (As := [.int a0]) (rest := [.ref (A 0)]) ⟨hx, hb, hml, hown, hts⟩ (k_M_isSlot l a0 r1 e_r1) (va_cwS 1 hts (ga_S ww_582 ww_583 ww_4 ww_584) rfl rfl rfl (by decide +kernel) ⟨by decide, by decide⟩) (pcs_pre hN) rfl rfl hl.1 rfl (lv_room (Nat.le_of_ble_eq_true rfl)) d_M_secret_2 ⟨Nat.zero_le _, Nat.zero_le _⟩).run (fun z9 hz9 => ?_)
  obtain rfl : r1 = z9 := hz9.symm
  obtain ⟨j2, q4, hF⟩ := Option.bind_eq_some_iff.mp hF
  have k3 : ∀ (H : Heap) (locs : List Loc) (ls : Array Slot), va_P D vwC (wM A cc g0) H → va_D AA (wM A cc g0) → va_S AA s.heap H locs → lv_has ls 3 [(0, .ref (A 0)), (1, .int a0), (2, .int a1)] → W p l e rm_M_secret s m ([Value.ref (A 0), Value.int a0, Value.int a1] : List Value).toArray below meth c H locs 0 0 (MQ below (va_Ql (fun r u => (r, u) = res) (bw D (wM A cc) (kM cc) AA) AA) ([Value.ref (A 0), Value.int a0, Value.int a1] : List Value).toArray s 0 0 AA) (F0 m 31 ls [.int j2, .ref (A 0)]) := by
    intro H locs ls hP hD hS hl
    refine va_put (D := D) (ci := 3) (v := .int j2) (ty := .int) (C := R_M) (T := T_M) (N := 13) hx hb hts in_M ft_M ft_M_ok fn_M hown hK hP hD hS 0 rfl rfl 0 (by decide) (hw _ ww_534) (fun _ h9 => h9) rfl (by decide +kernel) rfl rfl (Nat.le_of_ble_eq_true rfl) d_M_secret_31 (fun H locs hP hD hS => ?_)
    have hP : va_P D vwC (wM A cc (j2, g0.2.1, g0.2.2.1, g0.2.2.2.1, g0.2.2.2.2.1, g0.2.2.2.2.2.1, g0.2.2.2.2.2.2.1, g0.2.2.2.2.2.2.2.1, g0.2.2.2.2.2.2.2.2.1, g0.2.2.2.2.2.2.2.2.2.1, g0.2.2.2.2.2.2.2.2.2.2.1, g0.2.2.2.2.2.2.2.2.2.2.2.1, g0.2.2.2.2.2.2.2.2.2.2.2.2)) H := hP
    have hD : va_D AA (wM A cc (j2, g0.2.1, g0.2.2.1, g0.2.2.2.1, g0.2.2.2.2.1, g0.2.2.2.2.2.1, g0.2.2.2.2.2.2.1, g0.2.2.2.2.2.2.2.1, g0.2.2.2.2.2.2.2.2.1, g0.2.2.2.2.2.2.2.2.2.1, g0.2.2.2.2.2.2.2.2.2.2.1, g0.2.2.2.2.2.2.2.2.2.2.2.1, g0.2.2.2.2.2.2.2.2.2.2.2.2)) := hD
    refine lv_aload_n hx hb d_M_secret_34 rfl (lv_at hl 0 rfl) ?_
    refine va_get (D := D) (ci := 3) (v := .int j2) (C := R_M) (T := T_M) (N := 13) hx hb hts in_M hown hK hP 0 rfl rfl 0 (by decide) (hw _ ww_534) (fun _ h9 => h9) rfl d_M_secret_35 ?_
    refine lv_if_eq hx hb d_M_secret_38 (tgt := 43) (by decide) (fun h9 => ?_) (fun h9 => ?_)
    · have hF := (if_pos h9).symm.trans hF
      refine lv_aload_n hx hb d_M_secret_43 rfl (lv_at hl 0 rfl) ?_
      refine va_get (D := D) (ci := 3) (v := .ref (A 2)) (C := R_M) (T := T_M) (N := 13) hx hb hts in_M hown hK hP 0 rfl rfl 2 (by decide) (hw _ ww_536) (fun _ h9 => h9) rfl d_M_secret_44 ?_
      refine lv_iload_n hx hb d_M_secret_47 rfl (lv_at hl 1 rfl) ?_
      refine lv_iload_n hx hb d_M_secret_48 rfl (lv_at hl 2 rfl) ?_
      refine lv_i2l (v := Int32.toInt64 a1) hx hb d_M_secret_49 rfl ?_
      by_cases h6 : a0 < 0 ∨ 6 ≤ Int32.toNatClampNeg a0
      · rw [if_pos h6] at hF; cases hF
      have hF := (if_neg h6).symm.trans hF
      refine va_last hx hb hK hP hD hS 2 1 rfl rfl h6 d_M_secret_50 (fun H locs hP hD hS => ?_)
      have hP : va_P D vwC (wM A cc (j2, g0.2.1, (vp_updL g0.2.2.1 (Int32.toNatClampNeg a0) (Int32.toInt64 a1)), g0.2.2.2.1, g0.2.2.2.2.1, g0.2.2.2.2.2.1, g0.2.2.2.2.2.2.1, g0.2.2.2.2.2.2.2.1, g0.2.2.2.2.2.2.2.2.1, g0.2.2.2.2.2.2.2.2.2.1, g0.2.2.2.2.2.2.2.2.2.2.1, g0.2.2.2.2.2.2.2.2.2.2.2.1, g0.2.2.2.2.2.2.2.2.2.2.2.2)) H := hP
      have hD : va_D AA (wM A cc (j2, g0.2.1, (vp_updL g0.2.2.1 (Int32.toNatClampNeg a0) (Int32.toInt64 a1)), g0.2.2.2.1, g0.2.2.2.2.1, g0.2.2.2.2.2.1, g0.2.2.2.2.2.2.1, g0.2.2.2.2.2.2.2.1, g0.2.2.2.2.2.2.2.2.1, g0.2.2.2.2.2.2.2.2.2.1, g0.2.2.2.2.2.2.2.2.2.2.1, g0.2.2.2.2.2.2.2.2.2.2.2.1, g0.2.2.2.2.2.2.2.2.2.2.2.2)) := hD
      refine lv_aload_n hx hb d_M_secret_51 rfl (lv_at hl 0 rfl) ?_
      refine va_get (D := D) (ci := 3) (v := .ref (A 1)) (C := R_M) (T := T_M) (N := 13) hx hb hts in_M hown hK hP 0 rfl rfl 1 (by decide) (hw _ ww_535) (fun _ h9 => h9) rfl d_M_secret_52 ?_
      refine lv_iload_n hx hb d_M_secret_55 rfl (lv_at hl 1 rfl) ?_
      refine lv_iload_n hx hb d_M_secret_56 rfl (lv_at hl 2 rfl) ?_
      refine lv_i2l (v := Int32.toInt64 a1) hx hb d_M_secret_57 rfl ?_
      obtain ⟨r7, e_r7, hF⟩ := Option.bind_eq_some_iff.mp hF
      refine vp_callSl (va_runS (As := []) (rest := [.long (Int32.toInt64 a1), .int a0, .ref (A 1)]) ⟨hx, hb, hml, hown, hts⟩ (k_M_g l  r7 e_r7) (va_cwS 0 hts (ga_S ww_586 ww_587 ww_4 ww_588) rfl rfl rfl (by decide +kernel) ⟨by decide, by decide⟩) (pcs_pre hN) rfl rfl hl.1 rfl (lv_room (Nat.le_of_ble_eq_true rfl)) d_M_secret_58 ⟨Nat.zero_le _, Nat.zero_le _⟩).run (fun z9 hz9 => ?_)
      obtain rfl : r7 = z9 := hz9.symm
      obtain ⟨r8, e_r8, hF⟩ := Option.bind_eq_some_iff.mp hF
      refine vp_callSl (va_runS (As := [.long (Int32.toInt64 a1), .long r7]) (rest := [.int a0, .ref (A 1)]) ⟨hx, hb, hml, hown, hts⟩ (k_M_times l (Int32.toInt64 a1) r7 r8 e_r8) (va_cwS 2 hts (ga_S ww_590 ww_591 ww_4 ww_592) rfl rfl rfl (by decide +kernel) ⟨by decide, by decide⟩) (pcs_pre hN) rfl rfl hl.1 rfl (lv_room (Nat.le_of_ble_eq_true rfl)) d_M_secret_61 ⟨Nat.zero_le _, Nat.zero_le _⟩).run (fun z9 hz9 => ?_)
      obtain rfl : r8 = z9 := hz9.symm
      by_cases h9 : a0 < 0 ∨ 6 ≤ Int32.toNatClampNeg a0
      · rw [if_pos h9] at hF; cases hF
      have hF := (if_neg h9).symm.trans hF
      refine va_last hx hb hK hP hD hS 1 0 rfl rfl h9 d_M_secret_64 (fun H locs hP hD hS => ?_)
      have hP : va_P D vwC (wM A cc (j2, (vp_updL g0.2.1 (Int32.toNatClampNeg a0) r8), (vp_updL g0.2.2.1 (Int32.toNatClampNeg a0) (Int32.toInt64 a1)), g0.2.2.2.1, g0.2.2.2.2.1, g0.2.2.2.2.2.1, g0.2.2.2.2.2.2.1, g0.2.2.2.2.2.2.2.1, g0.2.2.2.2.2.2.2.2.1, g0.2.2.2.2.2.2.2.2.2.1, g0.2.2.2.2.2.2.2.2.2.2.1, g0.2.2.2.2.2.2.2.2.2.2.2.1, g0.2.2.2.2.2.2.2.2.2.2.2.2)) H := hP
      have hD : va_D AA (wM A cc (j2, (vp_updL g0.2.1 (Int32.toNatClampNeg a0) r8), (vp_updL g0.2.2.1 (Int32.toNatClampNeg a0) (Int32.toInt64 a1)), g0.2.2.2.1, g0.2.2.2.2.1, g0.2.2.2.2.2.1, g0.2.2.2.2.2.2.1, g0.2.2.2.2.2.2.2.1, g0.2.2.2.2.2.2.2.2.1, g0.2.2.2.2.2.2.2.2.2.1, g0.2.2.2.2.2.2.2.2.2.2.1, g0.2.2.2.2.2.2.2.2.2.2.2.1, g0.2.2.2.2.2.2.2.2.2.2.2.2)) := hD
      refine lv_aload_n hx hb d_M_secret_65 rfl (lv_at hl 0 rfl) ?_
      refine va_get (D := D) (ci := 3) (v := .ref (A 1)) (C := R_M) (T := T_M) (N := 13) hx hb hts in_M hown hK hP 0 rfl rfl 1 (by decide) (hw _ ww_535) (fun _ h9 => h9) rfl d_M_secret_66 ?_
      refine lv_iload_n hx hb d_M_secret_69 rfl (lv_at hl 1 rfl) ?_
      by_cases h10 : a0 < 0 ∨ 6 ≤ Int32.toNatClampNeg a0
      · rw [if_pos h10] at hF; cases hF
      have hF := (if_neg h10).symm.trans hF
      refine va_lald hx hb hK hP 1 0 rfl rfl h10 d_M_secret_70 ?_
      obtain ⟨r11, e_r11, hF⟩ := Option.bind_eq_some_iff.mp hF
      refine vp_callSl (va_runS (As := [.long ((vp_updL g0.2.1 (Int32.toNatClampNeg a0) r8) (Int32.toNatClampNeg a0))]) (rest := []) ⟨hx, hb, hml, hown, hts⟩ (k_M_codeOf l ((vp_updL g0.2.1 (Int32.toNatClampNeg a0) r8) (Int32.toNatClampNeg a0)) r11 e_r11) (va_cwS 1 hts (ga_S ww_615 ww_616 ww_4 ww_617) rfl rfl rfl (by decide +kernel) ⟨by decide, by decide⟩) (pcs_pre hN) rfl rfl hl.1 rfl (lv_room (Nat.le_of_ble_eq_true rfl)) d_M_secret_71 ⟨Nat.zero_le _, Nat.zero_le _⟩).run (fun z9 hz9 => ?_)
      obtain rfl : r11 = z9 := hz9.symm
      obtain rfl := Option.some.inj hF
      exact W.lret hx hb hr (fun t ht hW => ⟨⟨_, _, rfl, rfl, bw_end hP hK hD ht hW⟩, hS.F ht⟩) hS.2.2 d_M_secret_74
    · have hF := (if_neg h9).symm.trans hF
      refine lv_lconst (v := 0) hx hb d_M_secret_41 (by decide) ?_
      obtain rfl := Option.some.inj hF
      exact W.lret hx hb hr (fun t ht hW => ⟨⟨_, _, rfl, rfl, bw_end hP hK hD ht hW⟩, hS.F ht⟩) hS.2.2 d_M_secret_42
  clear hF
  have hF := q4
  refine lv_if_ne hx hb d_M_secret_5 (tgt := 12) (by decide) (fun h9 => ?_) (fun h9 => ?_)
  · have hF := (if_neg h9).symm.trans hF
    refine lv_iload_n hx hb d_M_secret_12 rfl (lv_at hl 2 rfl) ?_
    refine lv_iconst (v := 1) hx hb d_M_secret_13 (by decide) ?_
    refine lv_icmp_lt hx hb d_M_secret_14 (tgt := 26) (by decide) (fun h9 => ?_) (fun h9 => ?_)
    · have hF := (if_pos h9).symm.trans hF
      refine lv_iconst (v := 2) hx hb d_M_secret_26 (by decide) ?_
      refine lv_goto hx hb d_M_secret_27 (tgt := 31) (by decide) ?_
      obtain rfl := Option.some.inj hF
      exact k3 _ _ ls hP hD hS (lv_sub hl [0, 1, 2] rfl)
    · have hF := (if_neg h9).symm.trans hF
      refine lv_iload_n hx hb d_M_secret_17 rfl (lv_at hl 2 rfl) ?_
      refine lv_i2l (v := Int32.toInt64 a1) hx hb d_M_secret_18 rfl ?_
      refine lv_ldc2 (v := 1073729077) hx hb hown (hw _ ww_585) d_M_secret_19 ?_
      refine W.lcmp hx hb d_M_secret_22 ?_
      refine lv_if_lt hx hb d_M_secret_23 (tgt := 30) (by decide) (fun h9 => ?_) (fun h9 => ?_)
      · have hF := (if_pos h9).symm.trans hF
        refine lv_iconst (v := 0) hx hb d_M_secret_30 (by decide) ?_
        obtain rfl := Option.some.inj hF
        exact k3 _ _ ls hP hD hS (lv_sub hl [0, 1, 2] rfl)
      · have hF := (if_neg h9).symm.trans hF
        refine lv_iconst (v := 2) hx hb d_M_secret_26 (by decide) ?_
        refine lv_goto hx hb d_M_secret_27 (tgt := 31) (by decide) ?_
        obtain rfl := Option.some.inj hF
        exact k3 _ _ ls hP hD hS (lv_sub hl [0, 1, 2] rfl)
  · have hF := (if_pos h9).symm.trans hF
    refine lv_iconst (v := 1) hx hb d_M_secret_8 (by decide) ?_
    refine lv_goto hx hb d_M_secret_9 (tgt := 31) (by decide) ?_
    obtain rfl := Option.some.inj hF
    exact k3 _ _ ls hP hD hS (lv_sub hl [0, 1, 2] rfl)
def f_M_code (g0 : sM) (a0 : Int32) : Option (Int64 × sM) := Option.bind (f_M_isSlot a0) (fun r1 => Option.bind (if r1 = 0 then (some (1) : Option (Int32)) else (some (0))) (fun j2 => Option.bind (if j2 = 0 then (if a0 < 0 ∨ 6 ≤ Int32.toNatClampNeg a0 then none else (Option.bind (f_M_codeOf (g0.2.1 (Int32.toNatClampNeg a0))) (fun r11 => some (r11))) : Option (Int64)) else (some (0))) (fun j6 => some (j6, (j2, g0.2.1, g0.2.2.1, g0.2.2.2.1, g0.2.2.2.2.1, g0.2.2.2.2.2.1, g0.2.2.2.2.2.2.1, g0.2.2.2.2.2.2.2.1, g0.2.2.2.2.2.2.2.2.1, g0.2.2.2.2.2.2.2.2.2.1, g0.2.2.2.2.2.2.2.2.2.2.1, g0.2.2.2.2.2.2.2.2.2.2.2.1, g0.2.2.2.2.2.2.2.2.2.2.2.2)))))
abbrev rm_M_code : Room := { frames := 2, cells := 0, slots := 0, locals := 42 }
set_option maxHeartbeats 4000000 in
set_option maxRecDepth 100000 in
theorem k_M_code (l : Launch) (D : va_G) (A : Nat → Nat) (cc : Nat → ClassId) (g0 : sM) (a0 : Int32) (sz : Nat) (res : (Int64 × sM)) (hF : f_M_code g0 a0 = some res) : Met l y_M_code (Cond.code y_M_code b_M_code 2 (some .long) :: wa) rm_M_code (pw D (wM A cc g0) (kM cc) [.ref (A 0), .int a0] sz) (va_Ql (fun r u => (r, u) = res) (bw D (wM A cc) (kM cc) (va_A (wM A cc g0) sz)) (va_A (wM A cc g0) sz)) 0 0 (va_A (wM A cc g0) sz) := by
  refine Met.ofW (cc := b_M_code) (maxL := 2) (ret := (some .long)) (by decide) rfl ?_
  intro p e s m args below meth c s₁ B hml hv
  obtain ⟨rfl, hsz, hP, hK, hD0, hN⟩ := hv
  have hx := B.exec
  have hb := B.bytes
  have hr := B.returns
  have hts := atoms_spec (ws := Cond.code y_M_code b_M_code 2 (some .long) :: wa) B.pre
  have hw : ∀ w ∈ wa, w.before _ s = true := fun w h => hts w (List.mem_cons_of_mem _ h)
  have hown : s.vm.findClass R_M = some m.cls := findClass_of_methodNamed B.named
  have hlocks := B.notSynchronized
  subst hsz
  have hD := hD0.self (sz := s.heap.size)
  generalize hAe : va_A (wM A cc g0) s.heap.size = AA at hD ⊢
  have hA : ∀ q : Nat, s.heap.size ≤ q → AA q := fun q h => by rw [← hAe]; exact Or.inr h
  have hS : va_S AA s.heap s.heap [] := va_S.rf
  have hl := lv_entry ([.ref (A 0), .int a0]) (n := 2) (Nat.le_of_ble_eq_true rfl)
  rw [lg_entry_eq]
  generalize (lg_sl ([.ref (A 0), .int a0]) ++ List.replicate (2 - (lg_sl ([.ref (A 0), .int a0])).length) Slot.unset).toArray = ls at hl ⊢
  have hl : lv_has ls 2 [(0, .ref (A 0)), (1, .int a0)] := hl
  unfold f_M_code at hF
  refine lv_aload_n hx hb d_M_code_0 rfl (lv_at hl 0 rfl) ?_
  refine lv_iload_n hx hb d_M_code_1 rfl (lv_at hl 1 rfl) ?_
  obtain ⟨r1, e_r1, hF⟩ := Option.bind_eq_some_iff.mp hF
  refine vp_callSi (va_runS (As := [.int a0]) (rest := [.ref (A 0)]) ⟨hx, hb, hml, hown, hts⟩ (k_M_isSlot l a0 r1 e_r1) (va_cwS 1 hts (ga_S ww_582 ww_583 ww_4 ww_584) rfl rfl rfl (by decide +kernel) ⟨by decide, by decide⟩) (pcs_pre hN) rfl rfl hl.1 rfl (lv_room (Nat.le_of_ble_eq_true rfl)) d_M_code_2 ⟨Nat.zero_le _, Nat.zero_le _⟩).run (fun z9 hz9 => ?_)
  obtain rfl : r1 = z9 := hz9.symm
  obtain ⟨j2, q4, hF⟩ := Option.bind_eq_some_iff.mp hF
  have z_j2 : j2 = 0 ∨ j2 = 1 := by
    have h := q4
    (repeat' (split at h)) <;> (obtain rfl := Option.some.inj h; first | exact Or.inl rfl | exact Or.inr rfl)
  have k3 : ∀ (H : Heap) (locs : List Loc) (ls : Array Slot), va_P D vwC (wM A cc g0) H → va_D AA (wM A cc g0) → va_S AA s.heap H locs → lv_has ls 2 [(0, .ref (A 0)), (1, .int a0)] → W p l e rm_M_code s m ([Value.ref (A 0), Value.int a0] : List Value).toArray below meth c H locs 0 0 (MQ below (va_Ql (fun r u => (r, u) = res) (bw D (wM A cc) (kM cc) AA) AA) ([Value.ref (A 0), Value.int a0] : List Value).toArray s 0 0 AA) (F0 m 13 ls [.int j2, .ref (A 0)]) := by
    intro H locs ls hP hD hS hl
    refine va_put (D := D) (ci := 3) (v := .int j2) (ty := .int) (C := R_M) (T := T_M) (N := 13) hx hb hts in_M ft_M ft_M_ok fn_M hown hK hP hD hS 0 rfl rfl 0 (by decide) (hw _ ww_534) (fun _ h9 => h9) rfl (by decide +kernel) rfl rfl (Nat.le_of_ble_eq_true rfl) d_M_code_13 (fun H locs hP hD hS => ?_)
    have hP : va_P D vwC (wM A cc (j2, g0.2.1, g0.2.2.1, g0.2.2.2.1, g0.2.2.2.2.1, g0.2.2.2.2.2.1, g0.2.2.2.2.2.2.1, g0.2.2.2.2.2.2.2.1, g0.2.2.2.2.2.2.2.2.1, g0.2.2.2.2.2.2.2.2.2.1, g0.2.2.2.2.2.2.2.2.2.2.1, g0.2.2.2.2.2.2.2.2.2.2.2.1, g0.2.2.2.2.2.2.2.2.2.2.2.2)) H := hP
    have hD : va_D AA (wM A cc (j2, g0.2.1, g0.2.2.1, g0.2.2.2.1, g0.2.2.2.2.1, g0.2.2.2.2.2.1, g0.2.2.2.2.2.2.1, g0.2.2.2.2.2.2.2.1, g0.2.2.2.2.2.2.2.2.1, g0.2.2.2.2.2.2.2.2.2.1, g0.2.2.2.2.2.2.2.2.2.2.1, g0.2.2.2.2.2.2.2.2.2.2.2.1, g0.2.2.2.2.2.2.2.2.2.2.2.2)) := hD
    refine lv_aload_n hx hb d_M_code_16 rfl (lv_at hl 0 rfl) ?_
    refine va_get (D := D) (ci := 3) (v := .int j2) (C := R_M) (T := T_M) (N := 13) hx hb hts in_M hown hK hP 0 rfl rfl 0 (by decide) (hw _ ww_534) (fun _ h9 => h9) rfl d_M_code_17 ?_
    obtain ⟨j6, q8, hF⟩ := Option.bind_eq_some_iff.mp hF
    have k7 : ∀ (H : Heap) (locs : List Loc) (ls : Array Slot), va_P D vwC (wM A cc (j2, g0.2.1, g0.2.2.1, g0.2.2.2.1, g0.2.2.2.2.1, g0.2.2.2.2.2.1, g0.2.2.2.2.2.2.1, g0.2.2.2.2.2.2.2.1, g0.2.2.2.2.2.2.2.2.1, g0.2.2.2.2.2.2.2.2.2.1, g0.2.2.2.2.2.2.2.2.2.2.1, g0.2.2.2.2.2.2.2.2.2.2.2.1, g0.2.2.2.2.2.2.2.2.2.2.2.2)) H → va_D AA (wM A cc (j2, g0.2.1, g0.2.2.1, g0.2.2.2.1, g0.2.2.2.2.1, g0.2.2.2.2.2.1, g0.2.2.2.2.2.2.1, g0.2.2.2.2.2.2.2.1, g0.2.2.2.2.2.2.2.2.1, g0.2.2.2.2.2.2.2.2.2.1, g0.2.2.2.2.2.2.2.2.2.2.1, g0.2.2.2.2.2.2.2.2.2.2.2.1, g0.2.2.2.2.2.2.2.2.2.2.2.2)) → va_S AA s.heap H locs → lv_has ls 2 [] → W p l e rm_M_code s m ([Value.ref (A 0), Value.int a0] : List Value).toArray below meth c H locs 0 0 (MQ below (va_Ql (fun r u => (r, u) = res) (bw D (wM A cc) (kM cc) AA) AA) ([Value.ref (A 0), Value.int a0] : List Value).toArray s 0 0 AA) (F0 m 36 ls [.long j6]) := by
      intro H locs ls hP hD hS hl
      obtain rfl := Option.some.inj hF
      exact W.lret hx hb hr (fun t ht hW => ⟨⟨_, _, rfl, rfl, bw_end hP hK hD ht hW⟩, hS.F ht⟩) hS.2.2 d_M_code_36
    clear hF
    have hF := q8
    refine lv_if_ne hx hb d_M_code_20 (tgt := 35) (by decide) (fun h9 => ?_) (fun h9 => ?_)
    · have hF := (if_neg h9).symm.trans hF
      refine lv_lconst (v := 0) hx hb d_M_code_35 (by decide) ?_
      obtain rfl := Option.some.inj hF
      exact k7 _ _ ls hP hD hS (lv_sub hl [] rfl)
    · have hF := (if_pos h9).symm.trans hF
      refine lv_aload_n hx hb d_M_code_23 rfl (lv_at hl 0 rfl) ?_
      refine va_get (D := D) (ci := 3) (v := .ref (A 1)) (C := R_M) (T := T_M) (N := 13) hx hb hts in_M hown hK hP 0 rfl rfl 1 (by decide) (hw _ ww_535) (fun _ h9 => h9) rfl d_M_code_24 ?_
      refine lv_iload_n hx hb d_M_code_27 rfl (lv_at hl 1 rfl) ?_
      by_cases h10 : a0 < 0 ∨ 6 ≤ Int32.toNatClampNeg a0
      · rw [if_pos h10] at hF; cases hF
      have hF := (if_neg h10).symm.trans hF
      refine va_lald hx hb hK hP 1 0 rfl rfl h10 d_M_code_28 ?_
      obtain ⟨r11, e_r11, hF⟩ := Option.bind_eq_some_iff.mp hF
      refine vp_callSl (va_runS (As := [.long (g0.2.1 (Int32.toNatClampNeg a0))]) (rest := []) ⟨hx, hb, hml, hown, hts⟩ (k_M_codeOf l (g0.2.1 (Int32.toNatClampNeg a0)) r11 e_r11) (va_cwS 1 hts (ga_S ww_615 ww_616 ww_4 ww_617) rfl rfl rfl (by decide +kernel) ⟨by decide, by decide⟩) (pcs_pre hN) rfl rfl hl.1 rfl (lv_room (Nat.le_of_ble_eq_true rfl)) d_M_code_29 ⟨Nat.zero_le _, Nat.zero_le _⟩).run (fun z9 hz9 => ?_)
      obtain rfl : r11 = z9 := hz9.symm
      refine lv_goto hx hb d_M_code_32 (tgt := 36) (by decide) ?_
      obtain rfl := Option.some.inj hF
      exact k7 _ _ ls hP hD hS (lv_sub hl [] rfl)
  clear hF
  have hF := q4
  refine lv_if_eq hx hb d_M_code_5 (tgt := 12) (by decide) (fun h9 => ?_) (fun h9 => ?_)
  · have hF := (if_pos h9).symm.trans hF
    refine lv_iconst (v := 1) hx hb d_M_code_12 (by decide) ?_
    obtain rfl := Option.some.inj hF
    exact k3 _ _ ls hP hD hS (lv_sub hl [0, 1] rfl)
  · have hF := (if_neg h9).symm.trans hF
    refine lv_iconst (v := 0) hx hb d_M_code_8 (by decide) ?_
    refine lv_goto hx hb d_M_code_9 (tgt := 13) (by decide) ?_
    obtain rfl := Option.some.inj hF
    exact k3 _ _ ls hP hD hS (lv_sub hl [0, 1] rfl)
def f_M_layByte (g0 : sM) (a0 : Int32) : Option sM := if g0.2.2.2.2.2.2.2.2.2.2.2.1 < 0 ∨ 16 ≤ Int32.toNatClampNeg g0.2.2.2.2.2.2.2.2.2.2.2.1 then none else (some ((g0.1, g0.2.1, g0.2.2.1, g0.2.2.2.1, g0.2.2.2.2.1, g0.2.2.2.2.2.1, g0.2.2.2.2.2.2.1, g0.2.2.2.2.2.2.2.1, g0.2.2.2.2.2.2.2.2.1, g0.2.2.2.2.2.2.2.2.2.1, g0.2.2.2.2.2.2.2.2.2.2.1, (g0.2.2.2.2.2.2.2.2.2.2.2.1 + 1), (upd g0.2.2.2.2.2.2.2.2.2.2.2.2 (Int32.toNatClampNeg g0.2.2.2.2.2.2.2.2.2.2.2.1) a0))))
abbrev rm_M_layByte : Room := { frames := 0, cells := 0, slots := 0, locals := 0 }
set_option maxHeartbeats 4000000 in
set_option maxRecDepth 100000 in
theorem k_M_layByte (l : Launch) (D : va_G) (A : Nat → Nat) (cc : Nat → ClassId) (g0 : sM) (a0 : Int32) (sz : Nat) (res : sM) (hF : f_M_layByte g0 a0 = some res) : Met l y_M_layByte (Cond.code y_M_layByte b_M_layByte 2 none :: wa) rm_M_layByte (pw D (wM A cc g0) (kM cc) [.ref (A 0), .int a0] sz) (va_Qv (fun u => u = res) (bw D (wM A cc) (kM cc) (va_A (wM A cc g0) sz)) (va_A (wM A cc g0) sz)) 0 0 (va_A (wM A cc g0) sz) := by
  refine Met.ofW (cc := b_M_layByte) (maxL := 2) (ret := none) (by decide) rfl ?_
  intro p e s m args below meth c s₁ B hml hv
  obtain ⟨rfl, hsz, hP, hK, hD0, hN⟩ := hv
  have hx := B.exec
  have hb := B.bytes
  have hr := B.returns
  have hts := atoms_spec (ws := Cond.code y_M_layByte b_M_layByte 2 none :: wa) B.pre
  have hw : ∀ w ∈ wa, w.before _ s = true := fun w h => hts w (List.mem_cons_of_mem _ h)
  have hown : s.vm.findClass R_M = some m.cls := findClass_of_methodNamed B.named
  have hlocks := B.notSynchronized
  subst hsz
  have hD := hD0.self (sz := s.heap.size)
  generalize hAe : va_A (wM A cc g0) s.heap.size = AA at hD ⊢
  have hA : ∀ q : Nat, s.heap.size ≤ q → AA q := fun q h => by rw [← hAe]; exact Or.inr h
  have hS : va_S AA s.heap s.heap [] := va_S.rf
  have hl := lv_entry ([.ref (A 0), .int a0]) (n := 2) (Nat.le_of_ble_eq_true rfl)
  rw [lg_entry_eq]
  generalize (lg_sl ([.ref (A 0), .int a0]) ++ List.replicate (2 - (lg_sl ([.ref (A 0), .int a0])).length) Slot.unset).toArray = ls at hl ⊢
  have hl : lv_has ls 2 [(0, .ref (A 0)), (1, .int a0)] := hl
  unfold f_M_layByte at hF
  refine lv_aload_n hx hb d_M_layByte_0 rfl (lv_at hl 0 rfl) ?_
  refine va_get (D := D) (ci := 3) (v := .ref (A 8)) (C := R_M) (T := T_M) (N := 13) hx hb hts in_M hown hK hP 0 rfl rfl 12 (by decide) (hw _ ww_546) (fun _ h9 => h9) rfl d_M_layByte_1 ?_
  refine lv_aload_n hx hb d_M_layByte_4 rfl (lv_at hl 0 rfl) ?_
  refine va_get (D := D) (ci := 3) (v := .int g0.2.2.2.2.2.2.2.2.2.2.2.1) (C := R_M) (T := T_M) (N := 13) hx hb hts in_M hown hK hP 0 rfl rfl 11 (by decide) (hw _ ww_545) (fun _ h9 => h9) rfl d_M_layByte_5 ?_
  refine lv_iload_n hx hb d_M_layByte_8 rfl (lv_at hl 1 rfl) ?_
  by_cases h1 : g0.2.2.2.2.2.2.2.2.2.2.2.1 < 0 ∨ 16 ≤ Int32.toNatClampNeg g0.2.2.2.2.2.2.2.2.2.2.2.1
  · rw [if_pos h1] at hF; cases hF
  have hF := (if_neg h1).symm.trans hF
  refine va_iast hx hb hK hP hD hS 8 7 rfl rfl h1 d_M_layByte_9 (fun H locs hP hD hS => ?_)
  have hP : va_P D vwC (wM A cc (g0.1, g0.2.1, g0.2.2.1, g0.2.2.2.1, g0.2.2.2.2.1, g0.2.2.2.2.2.1, g0.2.2.2.2.2.2.1, g0.2.2.2.2.2.2.2.1, g0.2.2.2.2.2.2.2.2.1, g0.2.2.2.2.2.2.2.2.2.1, g0.2.2.2.2.2.2.2.2.2.2.1, g0.2.2.2.2.2.2.2.2.2.2.2.1, (upd g0.2.2.2.2.2.2.2.2.2.2.2.2 (Int32.toNatClampNeg g0.2.2.2.2.2.2.2.2.2.2.2.1) a0))) H := hP
  have hD : va_D AA (wM A cc (g0.1, g0.2.1, g0.2.2.1, g0.2.2.2.1, g0.2.2.2.2.1, g0.2.2.2.2.2.1, g0.2.2.2.2.2.2.1, g0.2.2.2.2.2.2.2.1, g0.2.2.2.2.2.2.2.2.1, g0.2.2.2.2.2.2.2.2.2.1, g0.2.2.2.2.2.2.2.2.2.2.1, g0.2.2.2.2.2.2.2.2.2.2.2.1, (upd g0.2.2.2.2.2.2.2.2.2.2.2.2 (Int32.toNatClampNeg g0.2.2.2.2.2.2.2.2.2.2.2.1) a0))) := hD
  refine lv_aload_n hx hb d_M_layByte_10 rfl (lv_at hl 0 rfl) ?_
  refine lv_dup hx hb d_M_layByte_11 rfl ?_
  refine va_get (D := D) (ci := 3) (v := .int g0.2.2.2.2.2.2.2.2.2.2.2.1) (C := R_M) (T := T_M) (N := 13) hx hb hts in_M hown hK hP 0 rfl rfl 11 (by decide) (hw _ ww_545) (fun _ h9 => h9) rfl d_M_layByte_12 ?_
  refine lv_iconst (v := 1) hx hb d_M_layByte_15 (by decide) ?_
  refine lv_iadd hx hb d_M_layByte_16 ?_
  refine va_put (D := D) (ci := 3) (v := .int (g0.2.2.2.2.2.2.2.2.2.2.2.1 + 1)) (ty := .int) (C := R_M) (T := T_M) (N := 13) hx hb hts in_M ft_M ft_M_ok fn_M hown hK hP hD hS 0 rfl rfl 11 (by decide) (hw _ ww_545) (fun _ h9 => h9) rfl (by decide +kernel) rfl rfl (Nat.le_of_ble_eq_true rfl) d_M_layByte_17 (fun H locs hP hD hS => ?_)
  have hP : va_P D vwC (wM A cc (g0.1, g0.2.1, g0.2.2.1, g0.2.2.2.1, g0.2.2.2.2.1, g0.2.2.2.2.2.1, g0.2.2.2.2.2.2.1, g0.2.2.2.2.2.2.2.1, g0.2.2.2.2.2.2.2.2.1, g0.2.2.2.2.2.2.2.2.2.1, g0.2.2.2.2.2.2.2.2.2.2.1, (g0.2.2.2.2.2.2.2.2.2.2.2.1 + 1), (upd g0.2.2.2.2.2.2.2.2.2.2.2.2 (Int32.toNatClampNeg g0.2.2.2.2.2.2.2.2.2.2.2.1) a0))) H := hP
  have hD : va_D AA (wM A cc (g0.1, g0.2.1, g0.2.2.1, g0.2.2.2.1, g0.2.2.2.2.1, g0.2.2.2.2.2.1, g0.2.2.2.2.2.2.1, g0.2.2.2.2.2.2.2.1, g0.2.2.2.2.2.2.2.2.1, g0.2.2.2.2.2.2.2.2.2.1, g0.2.2.2.2.2.2.2.2.2.2.1, (g0.2.2.2.2.2.2.2.2.2.2.2.1 + 1), (upd g0.2.2.2.2.2.2.2.2.2.2.2.2 (Int32.toNatClampNeg g0.2.2.2.2.2.2.2.2.2.2.2.1) a0))) := hD
  obtain rfl := Option.some.inj hF
  exact W.vret hx hb hr (fun t ht hW => ⟨⟨_, rfl, rfl, bw_end hP hK hD ht hW⟩, hS.F ht⟩) hS.2.2 d_M_layByte_20
def f_M_byteAt (g0 : sM) (a0 : Int32) : Option (Int32 × sM) := Option.bind (if g0.2.2.2.2.2.2.2.2.2.1 ≤ a0 then (some (0) : Option (Int32)) else (if a0 < 0 ∨ 20 ≤ Int32.toNatClampNeg a0 then none else (some (g0.2.2.2.2.2.2.2.2.2.2.1 (Int32.toNatClampNeg a0))))) (fun j1 => some (j1, g0))
abbrev rm_M_byteAt : Room := { frames := 0, cells := 0, slots := 0, locals := 0 }
set_option maxHeartbeats 4000000 in
set_option maxRecDepth 100000 in
theorem k_M_byteAt (l : Launch) (D : va_G) (A : Nat → Nat) (cc : Nat → ClassId) (g0 : sM) (a0 : Int32) (sz : Nat) (res : (Int32 × sM)) (hF : f_M_byteAt g0 a0 = some res) : Met l y_M_byteAt (Cond.code y_M_byteAt b_M_byteAt 2 (some .int) :: wa) rm_M_byteAt (pw D (wM A cc g0) (kM cc) [.ref (A 0), .int a0] sz) (va_Qi (fun r u => (r, u) = res) (bw D (wM A cc) (kM cc) (va_A (wM A cc g0) sz)) (va_A (wM A cc g0) sz)) 0 0 (va_A (wM A cc g0) sz) := by
  refine Met.ofW (cc := b_M_byteAt) (maxL := 2) (ret := (some .int)) (by decide) rfl ?_
  intro p e s m args below meth c s₁ B hml hv
  obtain ⟨rfl, hsz, hP, hK, hD0, hN⟩ := hv
  have hx := B.exec
  have hb := B.bytes
  have hr := B.returns
  have hts := atoms_spec (ws := Cond.code y_M_byteAt b_M_byteAt 2 (some .int) :: wa) B.pre
  have hw : ∀ w ∈ wa, w.before _ s = true := fun w h => hts w (List.mem_cons_of_mem _ h)
  have hown : s.vm.findClass R_M = some m.cls := findClass_of_methodNamed B.named
  have hlocks := B.notSynchronized
  subst hsz
  have hD := hD0.self (sz := s.heap.size)
  generalize hAe : va_A (wM A cc g0) s.heap.size = AA at hD ⊢
  have hA : ∀ q : Nat, s.heap.size ≤ q → AA q := fun q h => by rw [← hAe]; exact Or.inr h
  have hS : va_S AA s.heap s.heap [] := va_S.rf
  have hl := lv_entry ([.ref (A 0), .int a0]) (n := 2) (Nat.le_of_ble_eq_true rfl)
  rw [lg_entry_eq]
  generalize (lg_sl ([.ref (A 0), .int a0]) ++ List.replicate (2 - (lg_sl ([.ref (A 0), .int a0])).length) Slot.unset).toArray = ls at hl ⊢
  have hl : lv_has ls 2 [(0, .ref (A 0)), (1, .int a0)] := hl
  unfold f_M_byteAt at hF
  refine lv_iload_n hx hb d_M_byteAt_0 rfl (lv_at hl 1 rfl) ?_
  refine lv_aload_n hx hb d_M_byteAt_1 rfl (lv_at hl 0 rfl) ?_
  refine va_get (D := D) (ci := 3) (v := .int g0.2.2.2.2.2.2.2.2.2.1) (C := R_M) (T := T_M) (N := 13) hx hb hts in_M hown hK hP 0 rfl rfl 9 (by decide) (hw _ ww_543) (fun _ h9 => h9) rfl d_M_byteAt_2 ?_
  obtain ⟨j1, q3, hF⟩ := Option.bind_eq_some_iff.mp hF
  have k2 : ∀ (H : Heap) (locs : List Loc) (ls : Array Slot), va_P D vwC (wM A cc g0) H → va_D AA (wM A cc g0) → va_S AA s.heap H locs → lv_has ls 2 [] → W p l e rm_M_byteAt s m ([Value.ref (A 0), Value.int a0] : List Value).toArray below meth c H locs 0 0 (MQ below (va_Qi (fun r u => (r, u) = res) (bw D (wM A cc) (kM cc) AA) AA) ([Value.ref (A 0), Value.int a0] : List Value).toArray s 0 0 AA) (F0 m 18 ls [.int j1]) := by
    intro H locs ls hP hD hS hl
    obtain rfl := Option.some.inj hF
    exact W.iret hx hb hr (fun t ht hW => ⟨⟨_, _, rfl, rfl, bw_end hP hK hD ht hW⟩, hS.F ht⟩) hS.2.2 d_M_byteAt_18
  clear hF
  have hF := q3
  refine lv_icmp_ge hx hb d_M_byteAt_5 (tgt := 17) (by decide) (fun h9 => ?_) (fun h9 => ?_)
  · have hF := (if_pos h9).symm.trans hF
    refine lv_iconst (v := 0) hx hb d_M_byteAt_17 (by decide) ?_
    obtain rfl := Option.some.inj hF
    exact k2 _ _ ls hP hD hS (lv_sub hl [] rfl)
  · have hF := (if_neg h9).symm.trans hF
    refine lv_aload_n hx hb d_M_byteAt_8 rfl (lv_at hl 0 rfl) ?_
    refine va_get (D := D) (ci := 3) (v := .ref (A 7)) (C := R_M) (T := T_M) (N := 13) hx hb hts in_M hown hK hP 0 rfl rfl 10 (by decide) (hw _ ww_544) (fun _ h9 => h9) rfl d_M_byteAt_9 ?_
    refine lv_iload_n hx hb d_M_byteAt_12 rfl (lv_at hl 1 rfl) ?_
    by_cases h5 : a0 < 0 ∨ 20 ≤ Int32.toNatClampNeg a0
    · rw [if_pos h5] at hF; cases hF
    have hF := (if_neg h5).symm.trans hF
    refine va_iald hx hb hK hP 7 6 rfl rfl h5 d_M_byteAt_13 ?_
    refine lv_goto hx hb d_M_byteAt_14 (tgt := 18) (by decide) ?_
    obtain rfl := Option.some.inj hF
    exact k2 _ _ ls hP hD hS (lv_sub hl [] rfl)
def f_M_numberAt_6 (a0 : Int32) : Nat → sM → Int32 → Int32 → Option (sM × Int32 × Int32)
  | 0, _, _, _ => none
  | n + 1, g4, u2, u3 => Option.bind (f_M_byteAt g4 a0) (fun t12 => match t12 with | (r11, g10) => (if (a0 + r11) < u2 then (some (g10, u2, u3)) else (if (a0 + 4) < u2 then (some (g10, u2, u3)) else (Option.bind (f_M_byteAt g10 u2) (fun t15 => match t15 with | (r14, g13) => (Option.bind (some ((u3 <<< (8 &&& 31)) ||| r14)) (fun v16 => Option.bind (some (u2 + 1)) (fun v17 => f_M_numberAt_6 a0 n g13 v17 v16))))))))
def f_M_numberAt (g0 : sM) (a0 : Int32) : Option (Int32 × sM) := Option.bind (some (a0 + 1)) (fun v1 => Option.bind (f_M_numberAt_6 a0 64 g0 v1 0) (fun t19 => match t19 with | (o6, o7, o8) => (some (o8, o6))))
abbrev rm_M_numberAt : Room := { frames := 1, cells := 0, slots := 0, locals := 21 }
set_option maxHeartbeats 4000000 in
set_option maxRecDepth 100000 in
theorem k_M_numberAt (l : Launch) (D : va_G) (A : Nat → Nat) (cc : Nat → ClassId) (g0 : sM) (a0 : Int32) (sz : Nat) (res : (Int32 × sM)) (hF : f_M_numberAt g0 a0 = some res) : Met l y_M_numberAt (Cond.code y_M_numberAt b_M_numberAt 4 (some .int) :: wa) rm_M_numberAt (pw D (wM A cc g0) (kM cc) [.ref (A 0), .int a0] sz) (va_Qi (fun r u => (r, u) = res) (bw D (wM A cc) (kM cc) (va_A (wM A cc g0) sz)) (va_A (wM A cc g0) sz)) 0 0 (va_A (wM A cc g0) sz) := by
  refine Met.ofW (cc := b_M_numberAt) (maxL := 4) (ret := (some .int)) (by decide) rfl ?_
  intro p e s m args below meth c s₁ B hml hv
  obtain ⟨rfl, hsz, hP, hK, hD0, hN⟩ := hv
  have hx := B.exec
  have hb := B.bytes
  have hr := B.returns
  have hts := atoms_spec (ws := Cond.code y_M_numberAt b_M_numberAt 4 (some .int) :: wa) B.pre
  have hw : ∀ w ∈ wa, w.before _ s = true := fun w h => hts w (List.mem_cons_of_mem _ h)
  have hown : s.vm.findClass R_M = some m.cls := findClass_of_methodNamed B.named
  have hlocks := B.notSynchronized
  subst hsz
  have hD := hD0.self (sz := s.heap.size)
  generalize hAe : va_A (wM A cc g0) s.heap.size = AA at hD ⊢
  have hA : ∀ q : Nat, s.heap.size ≤ q → AA q := fun q h => by rw [← hAe]; exact Or.inr h
  have hS : va_S AA s.heap s.heap [] := va_S.rf
  have hl := lv_entry ([.ref (A 0), .int a0]) (n := 4) (Nat.le_of_ble_eq_true rfl)
  rw [lg_entry_eq]
  generalize (lg_sl ([.ref (A 0), .int a0]) ++ List.replicate (4 - (lg_sl ([.ref (A 0), .int a0])).length) Slot.unset).toArray = ls at hl ⊢
  have hl : lv_has ls 4 [(0, .ref (A 0)), (1, .int a0)] := hl
  unfold f_M_numberAt at hF
  refine lv_iconst (v := 0) hx hb d_M_numberAt_0 (by decide) ?_
  refine lv_istore_n hx hb d_M_numberAt_1 rfl hl (by decide) (lv' := [(2, .int 0), (0, .ref (A 0)), (1, .int a0)]) rfl (fun ls hl => ?_)
  refine lv_iload_n hx hb d_M_numberAt_2 rfl (lv_at hl 2 rfl) ?_
  refine lv_iconst (v := 1) hx hb d_M_numberAt_3 (by decide) ?_
  refine lv_iadd hx hb d_M_numberAt_4 ?_
  obtain ⟨v1, e_v1, hF⟩ := Option.bind_eq_some_iff.mp hF
  refine nm_i (Option.some.inj e_v1) ?_
  refine lv_istore_n hx hb d_M_numberAt_5 rfl hl (by decide) (lv' := [(3, .int v1), (2, .int 0), (0, .ref (A 0)), (1, .int a0)]) rfl (fun ls hl => ?_)
  obtain ⟨⟨o6, o7, o8⟩, q18, hF⟩ := Option.bind_eq_some_iff.mp hF
  have k9 : ∀ (H : Heap) (locs : List Loc) (ls : Array Slot), va_P D vwC (wM A cc o6) H → va_D AA (wM A cc o6) → va_S AA s.heap H locs → lv_has ls 4 [(3, .int o7), (2, .int o8), (0, .ref (A 0)), (1, .int a0)] → W p l e rm_M_numberAt s m ([Value.ref (A 0), Value.int a0] : List Value).toArray below meth c H locs 0 0 (MQ below (va_Qi (fun r u => (r, u) = res) (bw D (wM A cc) (kM cc) AA) AA) ([Value.ref (A 0), Value.int a0] : List Value).toArray s 0 0 AA) (F0 m 41 ls []) := by
    intro H locs ls hP hD hS hl
    refine lv_iload_n hx hb d_M_numberAt_41 rfl (lv_at hl 1 rfl) ?_
    obtain rfl := Option.some.inj hF
    exact W.iret hx hb hr (fun t ht hW => ⟨⟨_, _, rfl, rfl, bw_end hP hK hD ht hW⟩, hS.F ht⟩) hS.2.2 d_M_numberAt_42
  clear hF
  have k5 : ∀ (n : Nat) (g4 : sM) (u2 : Int32) (u3 : Int32) (H : Heap) (locs : List Loc) (ls : Array Slot), va_P D vwC (wM A cc g4) H → va_D AA (wM A cc g4) → va_S AA s.heap H locs → lv_has ls 4 [(3, .int u2), (2, .int u3), (0, .ref (A 0)), (1, .int a0)] → f_M_numberAt_6 a0 n g4 u2 u3 = some (o6, o7, o8) → W p l e rm_M_numberAt s m ([Value.ref (A 0), Value.int a0] : List Value).toArray below meth c H locs 0 0 (MQ below (va_Qi (fun r u => (r, u) = res) (bw D (wM A cc) (kM cc) AA) AA) ([Value.ref (A 0), Value.int a0] : List Value).toArray s 0 0 AA) (F0 m 6 ls []) := by
    intro n
    induction n with
    | zero => intro g4 u2 u3 H locs ls hP hD hS hl hF; cases hF
    | succ n ih =>
      intro g4 u2 u3 H locs ls hP hD hS hl hF
      rw [f_M_numberAt_6] at hF
      refine lv_iload_n hx hb d_M_numberAt_6 rfl (lv_at hl 0 rfl) ?_
      refine lv_iload_n hx hb d_M_numberAt_7 rfl (lv_at hl 3 rfl) ?_
      refine lv_aload_n hx hb d_M_numberAt_8 rfl (lv_at hl 2 rfl) ?_
      refine lv_iload_n hx hb d_M_numberAt_9 rfl (lv_at hl 3 rfl) ?_
      obtain ⟨⟨r11, g10⟩, e_g10, hF⟩ := Option.bind_eq_some_iff.mp hF
      have hFc := va_free (wc := wM A cc g4) hD hS hA [0, 1, 2, 3, 4, 5, 6, 7, 8] rfl
      refine va_calli (va_runV (As := [.int a0]) (rest := [.int a0, .int u2]) ⟨hx, hb, hml, hown, hts⟩ (k_M_byteAt l D A cc g4 a0 _ (r11, g10) e_g10) (cwV 1 hts (ga_V ww_759 ww_761 wp_15 ww_4 ww_762) rfl rfl rfl (by decide +kernel) ⟨by decide, by decide⟩) (pw_pre (q0 := 0) (ci := 3) hP hK hD hN rfl rfl) rfl rfl hl.1 rfl (lv_room (Nat.le_of_ble_eq_true rfl)) d_M_numberAt_10 ⟨Nat.zero_le _, Nat.zero_le _⟩) hS (fun q _ h => hFc q h) hFc (fun r9 u9 t H locs ht hvm hp hB hz1 hk1 hS => ?_)
      obtain ⟨rfl, rfl⟩ := Prod.mk.inj hp.symm
      obtain ⟨hP, hD⟩ := bw_back hB ht hFc
      refine lv_iadd hx hb d_M_numberAt_13 ?_
      refine lv_icmp_gt hx hb d_M_numberAt_14 (tgt := 41) (by decide) (fun h9 => ?_) (fun h9 => ?_)
      · have hF := (if_pos h9).symm.trans hF
        cases Option.some.inj hF
        exact k9 _ _ ls hP hD hS (lv_sub hl [0, 1, 2, 3] rfl)
      · have hF := (if_neg h9).symm.trans hF
        refine lv_iload_n hx hb d_M_numberAt_17 rfl (lv_at hl 0 rfl) ?_
        refine lv_iload_n hx hb d_M_numberAt_18 rfl (lv_at hl 3 rfl) ?_
        refine lv_iconst (v := 4) hx hb d_M_numberAt_19 (by decide) ?_
        refine lv_iadd hx hb d_M_numberAt_20 ?_
        refine lv_icmp_gt hx hb d_M_numberAt_21 (tgt := 41) (by decide) (fun h9 => ?_) (fun h9 => ?_)
        · have hF := (if_pos h9).symm.trans hF
          cases Option.some.inj hF
          exact k9 _ _ ls hP hD hS (lv_sub hl [0, 1, 2, 3] rfl)
        · have hF := (if_neg h9).symm.trans hF
          refine lv_iload_n hx hb d_M_numberAt_24 rfl (lv_at hl 1 rfl) ?_
          refine lv_bipush (v := 8) hx hb d_M_numberAt_25 (by decide) ?_
          refine lv_ishl hx hb d_M_numberAt_27 ?_
          refine lv_aload_n hx hb d_M_numberAt_28 rfl (lv_at hl 2 rfl) ?_
          refine lv_iload_n hx hb d_M_numberAt_29 rfl (lv_at hl 0 rfl) ?_
          obtain ⟨⟨r14, g13⟩, e_g13, hF⟩ := Option.bind_eq_some_iff.mp hF
          have hFc := va_free (wc := wM A cc g10) hD hS hA [0, 1, 2, 3, 4, 5, 6, 7, 8] rfl
          refine va_calli (va_runV (As := [.int u2]) (rest := [.int (u3 <<< (8 &&& 31))]) ⟨hx, hb, hml, hown, hts⟩ (k_M_byteAt l D A cc g10 u2 _ (r14, g13) e_g13) (cwV 1 hts (ga_V ww_759 ww_761 wp_15 ww_4 ww_762) rfl rfl rfl (by decide +kernel) ⟨by decide, by decide⟩) (pw_pre (q0 := 0) (ci := 3) hP hK hD hN rfl rfl) rfl rfl hl.1 rfl (lv_room (Nat.le_of_ble_eq_true rfl)) d_M_numberAt_30 ⟨Nat.zero_le _, Nat.zero_le _⟩) hS (fun q _ h => hFc q h) hFc (fun r9 u9 t H locs ht hvm hp hB hz1 hk1 hS => ?_)
          obtain ⟨rfl, rfl⟩ := Prod.mk.inj hp.symm
          obtain ⟨hP, hD⟩ := bw_back hB ht hFc
          refine lv_ior hx hb d_M_numberAt_33 ?_
          obtain ⟨v16, e_v16, hF⟩ := Option.bind_eq_some_iff.mp hF
          refine nm_i (Option.some.inj e_v16) ?_
          refine lv_istore_n hx hb d_M_numberAt_34 rfl hl (by decide) (lv' := [(2, .int v16), (3, .int u2), (0, .ref (A 0)), (1, .int a0)]) rfl (fun ls hl => ?_)
          obtain ⟨v17, e_v17, hF⟩ := Option.bind_eq_some_iff.mp hF
          refine lv_iinc hx hb d_M_numberAt_35 hl (k := 1) (v := v17) rfl ((show _ = u2 + 1 from rfl).trans (Option.some.inj e_v17)) (by decide) (lv' := [(3, .int v17), (2, .int v16), (0, .ref (A 0)), (1, .int a0)]) rfl (fun ls hl => ?_)
          refine lv_goto hx hb d_M_numberAt_38 (tgt := 6) (by decide) ?_
          exact ih g13 v17 v16 _ _ ls hP hD hS (lv_sub hl [0, 1, 2, 3] rfl) hF
  exact k5 64 g0 v1 0 _ _ ls hP hD hS (lv_sub hl [0, 1, 2, 3] rfl) q18
