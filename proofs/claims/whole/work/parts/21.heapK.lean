def f_I_areFull (g0 : sK)  : Option (Int32 × sK) := Option.bind (if g0.2.2.2.2.2.2.2.1 < 8 then (some (0) : Option (Int32)) else (some (1))) (fun j1 => if j1 = 0 ∨ j1 = 1 then some (j1, g0) else none)
abbrev rm_I_areFull : Room := { frames := 0, cells := 0, slots := 0, locals := 0 }
set_option maxHeartbeats 4000000 in
set_option maxRecDepth 100000 in
theorem k_I_areFull (l : Launch) (D : va_G) (A : Nat → Nat) (cc : Nat → ClassId) (g0 : sK)  (sz : Nat) (res : (Int32 × sK)) (hF : f_I_areFull g0  = some res) : Met l y_I_areFull (Cond.code y_I_areFull b_I_areFull 1 (some .boolean) :: wa) rm_I_areFull (pw D (wK A cc g0) (kK cc) [.ref (A 3)] sz) (va_Qi (fun r u => (r, u) = res) (bw D (wK A cc) (kK cc) (va_A (wK A cc g0) sz)) (va_A (wK A cc g0) sz)) 0 0 (va_A (wK A cc g0) sz) := by
  refine Met.ofW (cc := b_I_areFull) (maxL := 1) (ret := (some .boolean)) (by decide) rfl ?_
  intro p e s m args below meth c s₁ B hml hv
  obtain ⟨rfl, hsz, hP, hK, hD0, hN⟩ := hv
  have hx := B.exec
  have hb := B.bytes
  have hr := B.returns
  have hts := atoms_spec (ws := Cond.code y_I_areFull b_I_areFull 1 (some .boolean) :: wa) B.pre
  have hw : ∀ w ∈ wa, w.before _ s = true := fun w h => hts w (List.mem_cons_of_mem _ h)
  have hown : s.vm.findClass R_I = some m.cls := findClass_of_methodNamed B.named
  have hlocks := B.notSynchronized
  subst hsz
  have hD := hD0.self (sz := s.heap.size)
  generalize hAe : va_A (wK A cc g0) s.heap.size = AA at hD ⊢
  have hA : ∀ q : Nat, s.heap.size ≤ q → AA q := fun q h => by rw [← hAe]; exact Or.inr h
  have hS : va_S AA s.heap s.heap [] := va_S.rf
  have hl := lv_entry ([.ref (A 3)]) (n := 1) (Nat.le_of_ble_eq_true rfl)
  rw [lg_entry_eq]
  generalize (lg_sl ([.ref (A 3)]) ++ List.replicate (1 - (lg_sl ([.ref (A 3)])).length) Slot.unset).toArray = ls at hl ⊢
  have hl : lv_has ls 1 [(0, .ref (A 3))] := hl
  unfold f_I_areFull at hF
  refine lv_aload_n hx hb d_I_areFull_0 rfl (lv_at hl 0 rfl) ?_
  refine va_get (D := D) (ci := 0) (v := .int g0.2.2.2.2.2.2.2.1) (C := R_I) (T := T_I) (N := 5) hx hb hts in_I hown hK hP 3 rfl rfl 4 (by decide) (hw _ ww_35) (fun _ h9 => h9) rfl d_I_areFull_1 ?_
  refine lv_bipush (v := 8) hx hb d_I_areFull_4 (by decide) ?_
  obtain ⟨j1, q3, hF⟩ := Option.bind_eq_some_iff.mp hF
  have k2 : ∀ (H : Heap) (locs : List Loc) (ls : Array Slot), va_P D vwC (wK A cc g0) H → va_D AA (wK A cc g0) → va_S AA s.heap H locs → lv_has ls 1 [] → W p l e rm_I_areFull s m ([Value.ref (A 3)] : List Value).toArray below meth c H locs 0 0 (MQ below (va_Qi (fun r u => (r, u) = res) (bw D (wK A cc) (kK cc) AA) AA) ([Value.ref (A 3)] : List Value).toArray s 0 0 AA) (F0 m 14 ls [.int j1]) := by
    intro H locs ls hP hD hS hl
    by_cases h5 : ¬ (j1 = 0 ∨ j1 = 1)
    · have h0 := (if_neg h5).symm.trans hF; cases h0
    have h5 := Classical.not_not.mp h5
    have hF := (if_pos h5).symm.trans hF
    obtain rfl := Option.some.inj hF
    exact W.zret hx hb hr (nz_b h5) (fun t ht hW => ⟨⟨_, _, rfl, rfl, bw_end hP hK hD ht hW⟩, hS.F ht⟩) hS.2.2 d_I_areFull_14
  clear hF
  have hF := q3
  refine lv_icmp_lt hx hb d_I_areFull_6 (tgt := 13) (by decide) (fun h9 => ?_) (fun h9 => ?_)
  · have hF := (if_pos h9).symm.trans hF
    refine lv_iconst (v := 0) hx hb d_I_areFull_13 (by decide) ?_
    obtain rfl := Option.some.inj hF
    exact k2 _ _ ls hP hD hS (lv_sub hl [] rfl)
  · have hF := (if_neg h9).symm.trans hF
    refine lv_iconst (v := 1) hx hb d_I_areFull_9 (by decide) ?_
    refine lv_goto hx hb d_I_areFull_10 (tgt := 14) (by decide) ?_
    obtain rfl := Option.some.inj hF
    exact k2 _ _ ls hP hD hS (lv_sub hl [] rfl)
def f_I_put (g0 : sK) (a0 : Int64) (a1 : Int64) (a2 : Int32) (a3 : Int32) : Option (Int32 × sK) := Option.bind (f_C_evenOf a0) (fun r1 => if g0.2.2.2.2.2.2.2.1 < 0 ∨ 8 ≤ Int32.toNatClampNeg g0.2.2.2.2.2.2.2.1 then none else (if g0.2.2.2.2.2.2.2.1 < 0 ∨ 8 ≤ Int32.toNatClampNeg g0.2.2.2.2.2.2.2.1 then none else (if g0.2.2.2.2.2.2.2.1 < 0 ∨ 8 ≤ Int32.toNatClampNeg g0.2.2.2.2.2.2.2.1 then none else (if g0.2.2.2.2.2.2.2.1 < 0 ∨ 8 ≤ Int32.toNatClampNeg g0.2.2.2.2.2.2.2.1 then none else (some ((g0.2.2.2.2.2.2.2.1 + 1), (g0.1, g0.2.1, g0.2.2.1, (vp_updL g0.2.2.2.1 (Int32.toNatClampNeg g0.2.2.2.2.2.2.2.1) r1), (vp_updL g0.2.2.2.2.1 (Int32.toNatClampNeg g0.2.2.2.2.2.2.2.1) a1), (upd g0.2.2.2.2.2.1 (Int32.toNatClampNeg g0.2.2.2.2.2.2.2.1) a2), (upd g0.2.2.2.2.2.2.1 (Int32.toNatClampNeg g0.2.2.2.2.2.2.2.1) a3), (g0.2.2.2.2.2.2.2.1 + 1), g0.2.2.2.2.2.2.2.2.1, g0.2.2.2.2.2.2.2.2.2)))))))
abbrev rm_I_put : Room := { frames := 3, cells := 0, slots := 0, locals := 63 }
set_option maxHeartbeats 4000000 in
set_option maxRecDepth 100000 in
theorem k_I_put (l : Launch) (D : va_G) (A : Nat → Nat) (cc : Nat → ClassId) (g0 : sK) (a0 : Int64) (a1 : Int64) (a2 : Int32) (a3 : Int32) (sz : Nat) (res : (Int32 × sK)) (hF : f_I_put g0 a0 a1 a2 a3 = some res) : Met l y_I_put (Cond.code y_I_put b_I_put 7 (some .int) :: wa) rm_I_put (pw D (wK A cc g0) (kK cc) [.ref (A 3), .long a0, .long a1, .int a2, .int a3] sz) (va_Qi (fun r u => (r, u) = res) (bw D (wK A cc) (kK cc) (va_A (wK A cc g0) sz)) (va_A (wK A cc g0) sz)) 0 0 (va_A (wK A cc g0) sz) := by
  refine Met.ofW (cc := b_I_put) (maxL := 7) (ret := (some .int)) (by decide) rfl ?_
  intro p e s m args below meth c s₁ B hml hv
  obtain ⟨rfl, hsz, hP, hK, hD0, hN⟩ := hv
  have hx := B.exec
  have hb := B.bytes
  have hr := B.returns
  have hts := atoms_spec (ws := Cond.code y_I_put b_I_put 7 (some .int) :: wa) B.pre
  have hw : ∀ w ∈ wa, w.before _ s = true := fun w h => hts w (List.mem_cons_of_mem _ h)
  have hown : s.vm.findClass R_I = some m.cls := findClass_of_methodNamed B.named
  have hlocks := B.notSynchronized
  subst hsz
  have hD := hD0.self (sz := s.heap.size)
  generalize hAe : va_A (wK A cc g0) s.heap.size = AA at hD ⊢
  have hA : ∀ q : Nat, s.heap.size ≤ q → AA q := fun q h => by rw [← hAe]; exact Or.inr h
  have hS : va_S AA s.heap s.heap [] := va_S.rf
  have hl := lv_entry ([.ref (A 3), .long a0, .long a1, .int a2, .int a3]) (n := 7) (Nat.le_of_ble_eq_true rfl)
  rw [lg_entry_eq]
  generalize (lg_sl ([.ref (A 3), .long a0, .long a1, .int a2, .int a3]) ++ List.replicate (7 - (lg_sl ([.ref (A 3), .long a0, .long a1, .int a2, .int a3])).length) Slot.unset).toArray = ls at hl ⊢
  have hl : lv_has ls 7 [(0, .ref (A 3)), (1, .long a0), (3, .long a1), (5, .int a2), (6, .int a3)] := hl
  unfold f_I_put at hF
  refine lv_aload_n hx hb d_I_put_0 rfl (lv_at hl 0 rfl) ?_
  refine va_get (D := D) (ci := 0) (v := .ref (A 4)) (C := R_I) (T := T_I) (N := 5) hx hb hts in_I hown hK hP 3 rfl rfl 0 (by decide) (hw _ ww_31) (fun _ h9 => h9) rfl d_I_put_1 ?_
  refine lv_aload_n hx hb d_I_put_4 rfl (lv_at hl 0 rfl) ?_
  refine va_get (D := D) (ci := 0) (v := .int g0.2.2.2.2.2.2.2.1) (C := R_I) (T := T_I) (N := 5) hx hb hts in_I hown hK hP 3 rfl rfl 4 (by decide) (hw _ ww_35) (fun _ h9 => h9) rfl d_I_put_5 ?_
  refine lv_lload_n hx hb d_I_put_8 rfl (lv_at hl 1 rfl) ?_
  obtain ⟨r1, e_r1, hF⟩ := Option.bind_eq_some_iff.mp hF
  refine vp_callSl (va_runS (As := [.long a0]) (rest := [.int g0.2.2.2.2.2.2.2.1, .ref (A 4)]) ⟨hx, hb, hml, hown, hts⟩ (k_C_evenOf l a0 r1 e_r1) (va_cwS 1 hts (ga_S ww_494 ww_476 ww_11 ww_477) rfl rfl rfl (by decide +kernel) ⟨by decide, by decide⟩) (pcs_pre hN) rfl rfl hl.1 rfl (lv_room (Nat.le_of_ble_eq_true rfl)) d_I_put_9 ⟨Nat.zero_le _, Nat.zero_le _⟩).run (fun z9 hz9 => ?_)
  obtain rfl : r1 = z9 := hz9.symm
  by_cases h2 : g0.2.2.2.2.2.2.2.1 < 0 ∨ 8 ≤ Int32.toNatClampNeg g0.2.2.2.2.2.2.2.1
  · have h0 := (if_pos h2).symm.trans hF; cases h0
  have hF := (if_neg h2).symm.trans hF
  refine va_last hx hb hK hP hD hS 4 2 rfl rfl h2 d_I_put_12 (fun H locs hP hD hS => ?_)
  have hP : va_P D vwC (wK A cc (g0.1, g0.2.1, g0.2.2.1, (vp_updL g0.2.2.2.1 (Int32.toNatClampNeg g0.2.2.2.2.2.2.2.1) r1), g0.2.2.2.2.1, g0.2.2.2.2.2.1, g0.2.2.2.2.2.2.1, g0.2.2.2.2.2.2.2.1, g0.2.2.2.2.2.2.2.2.1, g0.2.2.2.2.2.2.2.2.2)) H := hP
  have hD : va_D AA (wK A cc (g0.1, g0.2.1, g0.2.2.1, (vp_updL g0.2.2.2.1 (Int32.toNatClampNeg g0.2.2.2.2.2.2.2.1) r1), g0.2.2.2.2.1, g0.2.2.2.2.2.1, g0.2.2.2.2.2.2.1, g0.2.2.2.2.2.2.2.1, g0.2.2.2.2.2.2.2.2.1, g0.2.2.2.2.2.2.2.2.2)) := hD
  refine lv_aload_n hx hb d_I_put_13 rfl (lv_at hl 0 rfl) ?_
  refine va_get (D := D) (ci := 0) (v := .ref (A 5)) (C := R_I) (T := T_I) (N := 5) hx hb hts in_I hown hK hP 3 rfl rfl 1 (by decide) (hw _ ww_32) (fun _ h9 => h9) rfl d_I_put_14 ?_
  refine lv_aload_n hx hb d_I_put_17 rfl (lv_at hl 0 rfl) ?_
  refine va_get (D := D) (ci := 0) (v := .int g0.2.2.2.2.2.2.2.1) (C := R_I) (T := T_I) (N := 5) hx hb hts in_I hown hK hP 3 rfl rfl 4 (by decide) (hw _ ww_35) (fun _ h9 => h9) rfl d_I_put_18 ?_
  refine lv_lload_n hx hb d_I_put_21 rfl (lv_at hl 2 rfl) ?_
  by_cases h3 : g0.2.2.2.2.2.2.2.1 < 0 ∨ 8 ≤ Int32.toNatClampNeg g0.2.2.2.2.2.2.2.1
  · have h0 := (if_pos h3).symm.trans hF; cases h0
  have hF := (if_neg h3).symm.trans hF
  refine va_last hx hb hK hP hD hS 5 3 rfl rfl h3 d_I_put_22 (fun H locs hP hD hS => ?_)
  have hP : va_P D vwC (wK A cc (g0.1, g0.2.1, g0.2.2.1, (vp_updL g0.2.2.2.1 (Int32.toNatClampNeg g0.2.2.2.2.2.2.2.1) r1), (vp_updL g0.2.2.2.2.1 (Int32.toNatClampNeg g0.2.2.2.2.2.2.2.1) a1), g0.2.2.2.2.2.1, g0.2.2.2.2.2.2.1, g0.2.2.2.2.2.2.2.1, g0.2.2.2.2.2.2.2.2.1, g0.2.2.2.2.2.2.2.2.2)) H := hP
  have hD : va_D AA (wK A cc (g0.1, g0.2.1, g0.2.2.1, (vp_updL g0.2.2.2.1 (Int32.toNatClampNeg g0.2.2.2.2.2.2.2.1) r1), (vp_updL g0.2.2.2.2.1 (Int32.toNatClampNeg g0.2.2.2.2.2.2.2.1) a1), g0.2.2.2.2.2.1, g0.2.2.2.2.2.2.1, g0.2.2.2.2.2.2.2.1, g0.2.2.2.2.2.2.2.2.1, g0.2.2.2.2.2.2.2.2.2)) := hD
  refine lv_aload_n hx hb d_I_put_23 rfl (lv_at hl 0 rfl) ?_
  refine va_get (D := D) (ci := 0) (v := .ref (A 6)) (C := R_I) (T := T_I) (N := 5) hx hb hts in_I hown hK hP 3 rfl rfl 2 (by decide) (hw _ ww_33) (fun _ h9 => h9) rfl d_I_put_24 ?_
  refine lv_aload_n hx hb d_I_put_27 rfl (lv_at hl 0 rfl) ?_
  refine va_get (D := D) (ci := 0) (v := .int g0.2.2.2.2.2.2.2.1) (C := R_I) (T := T_I) (N := 5) hx hb hts in_I hown hK hP 3 rfl rfl 4 (by decide) (hw _ ww_35) (fun _ h9 => h9) rfl d_I_put_28 ?_
  refine lv_iload hx hb d_I_put_31 (lv_at hl 3 rfl) ?_
  by_cases h4 : g0.2.2.2.2.2.2.2.1 < 0 ∨ 8 ≤ Int32.toNatClampNeg g0.2.2.2.2.2.2.2.1
  · have h0 := (if_pos h4).symm.trans hF; cases h0
  have hF := (if_neg h4).symm.trans hF
  refine va_iast hx hb hK hP hD hS 6 4 rfl rfl h4 d_I_put_33 (fun H locs hP hD hS => ?_)
  have hP : va_P D vwC (wK A cc (g0.1, g0.2.1, g0.2.2.1, (vp_updL g0.2.2.2.1 (Int32.toNatClampNeg g0.2.2.2.2.2.2.2.1) r1), (vp_updL g0.2.2.2.2.1 (Int32.toNatClampNeg g0.2.2.2.2.2.2.2.1) a1), (upd g0.2.2.2.2.2.1 (Int32.toNatClampNeg g0.2.2.2.2.2.2.2.1) a2), g0.2.2.2.2.2.2.1, g0.2.2.2.2.2.2.2.1, g0.2.2.2.2.2.2.2.2.1, g0.2.2.2.2.2.2.2.2.2)) H := hP
  have hD : va_D AA (wK A cc (g0.1, g0.2.1, g0.2.2.1, (vp_updL g0.2.2.2.1 (Int32.toNatClampNeg g0.2.2.2.2.2.2.2.1) r1), (vp_updL g0.2.2.2.2.1 (Int32.toNatClampNeg g0.2.2.2.2.2.2.2.1) a1), (upd g0.2.2.2.2.2.1 (Int32.toNatClampNeg g0.2.2.2.2.2.2.2.1) a2), g0.2.2.2.2.2.2.1, g0.2.2.2.2.2.2.2.1, g0.2.2.2.2.2.2.2.2.1, g0.2.2.2.2.2.2.2.2.2)) := hD
  refine lv_aload_n hx hb d_I_put_34 rfl (lv_at hl 0 rfl) ?_
  refine va_get (D := D) (ci := 0) (v := .ref (A 7)) (C := R_I) (T := T_I) (N := 5) hx hb hts in_I hown hK hP 3 rfl rfl 3 (by decide) (hw _ ww_34) (fun _ h9 => h9) rfl d_I_put_35 ?_
  refine lv_aload_n hx hb d_I_put_38 rfl (lv_at hl 0 rfl) ?_
  refine va_get (D := D) (ci := 0) (v := .int g0.2.2.2.2.2.2.2.1) (C := R_I) (T := T_I) (N := 5) hx hb hts in_I hown hK hP 3 rfl rfl 4 (by decide) (hw _ ww_35) (fun _ h9 => h9) rfl d_I_put_39 ?_
  refine lv_iload hx hb d_I_put_42 (lv_at hl 4 rfl) ?_
  by_cases h5 : g0.2.2.2.2.2.2.2.1 < 0 ∨ 8 ≤ Int32.toNatClampNeg g0.2.2.2.2.2.2.2.1
  · have h0 := (if_pos h5).symm.trans hF; cases h0
  have hF := (if_neg h5).symm.trans hF
  refine va_iast hx hb hK hP hD hS 7 5 rfl rfl h5 d_I_put_44 (fun H locs hP hD hS => ?_)
  have hP : va_P D vwC (wK A cc (g0.1, g0.2.1, g0.2.2.1, (vp_updL g0.2.2.2.1 (Int32.toNatClampNeg g0.2.2.2.2.2.2.2.1) r1), (vp_updL g0.2.2.2.2.1 (Int32.toNatClampNeg g0.2.2.2.2.2.2.2.1) a1), (upd g0.2.2.2.2.2.1 (Int32.toNatClampNeg g0.2.2.2.2.2.2.2.1) a2), (upd g0.2.2.2.2.2.2.1 (Int32.toNatClampNeg g0.2.2.2.2.2.2.2.1) a3), g0.2.2.2.2.2.2.2.1, g0.2.2.2.2.2.2.2.2.1, g0.2.2.2.2.2.2.2.2.2)) H := hP
  have hD : va_D AA (wK A cc (g0.1, g0.2.1, g0.2.2.1, (vp_updL g0.2.2.2.1 (Int32.toNatClampNeg g0.2.2.2.2.2.2.2.1) r1), (vp_updL g0.2.2.2.2.1 (Int32.toNatClampNeg g0.2.2.2.2.2.2.2.1) a1), (upd g0.2.2.2.2.2.1 (Int32.toNatClampNeg g0.2.2.2.2.2.2.2.1) a2), (upd g0.2.2.2.2.2.2.1 (Int32.toNatClampNeg g0.2.2.2.2.2.2.2.1) a3), g0.2.2.2.2.2.2.2.1, g0.2.2.2.2.2.2.2.2.1, g0.2.2.2.2.2.2.2.2.2)) := hD
  refine lv_aload_n hx hb d_I_put_45 rfl (lv_at hl 0 rfl) ?_
  refine lv_dup hx hb d_I_put_46 rfl ?_
  refine va_get (D := D) (ci := 0) (v := .int g0.2.2.2.2.2.2.2.1) (C := R_I) (T := T_I) (N := 5) hx hb hts in_I hown hK hP 3 rfl rfl 4 (by decide) (hw _ ww_35) (fun _ h9 => h9) rfl d_I_put_47 ?_
  refine lv_iconst (v := 1) hx hb d_I_put_50 (by decide) ?_
  refine lv_iadd hx hb d_I_put_51 ?_
  refine va_put (D := D) (ci := 0) (v := .int (g0.2.2.2.2.2.2.2.1 + 1)) (ty := .int) (C := R_I) (T := T_I) (N := 5) hx hb hts in_I ft_I ft_I_ok fn_I hown hK hP hD hS 3 rfl rfl 4 (by decide) (hw _ ww_35) (fun _ h9 => h9) rfl (by decide +kernel) rfl rfl (Nat.le_of_ble_eq_true rfl) d_I_put_52 (fun H locs hP hD hS => ?_)
  have hP : va_P D vwC (wK A cc (g0.1, g0.2.1, g0.2.2.1, (vp_updL g0.2.2.2.1 (Int32.toNatClampNeg g0.2.2.2.2.2.2.2.1) r1), (vp_updL g0.2.2.2.2.1 (Int32.toNatClampNeg g0.2.2.2.2.2.2.2.1) a1), (upd g0.2.2.2.2.2.1 (Int32.toNatClampNeg g0.2.2.2.2.2.2.2.1) a2), (upd g0.2.2.2.2.2.2.1 (Int32.toNatClampNeg g0.2.2.2.2.2.2.2.1) a3), (g0.2.2.2.2.2.2.2.1 + 1), g0.2.2.2.2.2.2.2.2.1, g0.2.2.2.2.2.2.2.2.2)) H := hP
  have hD : va_D AA (wK A cc (g0.1, g0.2.1, g0.2.2.1, (vp_updL g0.2.2.2.1 (Int32.toNatClampNeg g0.2.2.2.2.2.2.2.1) r1), (vp_updL g0.2.2.2.2.1 (Int32.toNatClampNeg g0.2.2.2.2.2.2.2.1) a1), (upd g0.2.2.2.2.2.1 (Int32.toNatClampNeg g0.2.2.2.2.2.2.2.1) a2), (upd g0.2.2.2.2.2.2.1 (Int32.toNatClampNeg g0.2.2.2.2.2.2.2.1) a3), (g0.2.2.2.2.2.2.2.1 + 1), g0.2.2.2.2.2.2.2.2.1, g0.2.2.2.2.2.2.2.2.2)) := hD
  refine lv_aload_n hx hb d_I_put_55 rfl (lv_at hl 0 rfl) ?_
  refine va_get (D := D) (ci := 0) (v := .int (g0.2.2.2.2.2.2.2.1 + 1)) (C := R_I) (T := T_I) (N := 5) hx hb hts in_I hown hK hP 3 rfl rfl 4 (by decide) (hw _ ww_35) (fun _ h9 => h9) rfl d_I_put_56 ?_
  obtain rfl := Option.some.inj hF
  exact W.iret hx hb hr (fun t ht hW => ⟨⟨_, _, rfl, rfl, bw_end hP hK hD ht hW⟩, hS.F ht⟩) hS.2.2 d_I_put_59
def f_I_clear (g0 : sK)  : Option sK := some ((g0.1, g0.2.1, g0.2.2.1, g0.2.2.2.1, g0.2.2.2.2.1, g0.2.2.2.2.2.1, g0.2.2.2.2.2.2.1, 0, g0.2.2.2.2.2.2.2.2.1, g0.2.2.2.2.2.2.2.2.2))
abbrev rm_I_clear : Room := { frames := 0, cells := 0, slots := 0, locals := 0 }
set_option maxHeartbeats 4000000 in
set_option maxRecDepth 100000 in
theorem k_I_clear (l : Launch) (D : va_G) (A : Nat → Nat) (cc : Nat → ClassId) (g0 : sK)  (sz : Nat) (res : sK) (hF : f_I_clear g0  = some res) : Met l y_I_clear (Cond.code y_I_clear b_I_clear 1 none :: wa) rm_I_clear (pw D (wK A cc g0) (kK cc) [.ref (A 3)] sz) (va_Qv (fun u => u = res) (bw D (wK A cc) (kK cc) (va_A (wK A cc g0) sz)) (va_A (wK A cc g0) sz)) 0 0 (va_A (wK A cc g0) sz) := by
  refine Met.ofW (cc := b_I_clear) (maxL := 1) (ret := none) (by decide) rfl ?_
  intro p e s m args below meth c s₁ B hml hv
  obtain ⟨rfl, hsz, hP, hK, hD0, hN⟩ := hv
  have hx := B.exec
  have hb := B.bytes
  have hr := B.returns
  have hts := atoms_spec (ws := Cond.code y_I_clear b_I_clear 1 none :: wa) B.pre
  have hw : ∀ w ∈ wa, w.before _ s = true := fun w h => hts w (List.mem_cons_of_mem _ h)
  have hown : s.vm.findClass R_I = some m.cls := findClass_of_methodNamed B.named
  have hlocks := B.notSynchronized
  subst hsz
  have hD := hD0.self (sz := s.heap.size)
  generalize hAe : va_A (wK A cc g0) s.heap.size = AA at hD ⊢
  have hA : ∀ q : Nat, s.heap.size ≤ q → AA q := fun q h => by rw [← hAe]; exact Or.inr h
  have hS : va_S AA s.heap s.heap [] := va_S.rf
  have hl := lv_entry ([.ref (A 3)]) (n := 1) (Nat.le_of_ble_eq_true rfl)
  rw [lg_entry_eq]
  generalize (lg_sl ([.ref (A 3)]) ++ List.replicate (1 - (lg_sl ([.ref (A 3)])).length) Slot.unset).toArray = ls at hl ⊢
  have hl : lv_has ls 1 [(0, .ref (A 3))] := hl
  unfold f_I_clear at hF
  refine lv_aload_n hx hb d_I_clear_0 rfl (lv_at hl 0 rfl) ?_
  refine lv_iconst (v := 0) hx hb d_I_clear_1 (by decide) ?_
  refine va_put (D := D) (ci := 0) (v := .int 0) (ty := .int) (C := R_I) (T := T_I) (N := 5) hx hb hts in_I ft_I ft_I_ok fn_I hown hK hP hD hS 3 rfl rfl 4 (by decide) (hw _ ww_35) (fun _ h9 => h9) rfl (by decide +kernel) rfl rfl (Nat.le_of_ble_eq_true rfl) d_I_clear_2 (fun H locs hP hD hS => ?_)
  have hP : va_P D vwC (wK A cc (g0.1, g0.2.1, g0.2.2.1, g0.2.2.2.1, g0.2.2.2.2.1, g0.2.2.2.2.2.1, g0.2.2.2.2.2.2.1, 0, g0.2.2.2.2.2.2.2.2.1, g0.2.2.2.2.2.2.2.2.2)) H := hP
  have hD : va_D AA (wK A cc (g0.1, g0.2.1, g0.2.2.1, g0.2.2.2.1, g0.2.2.2.2.1, g0.2.2.2.2.2.1, g0.2.2.2.2.2.2.1, 0, g0.2.2.2.2.2.2.2.2.1, g0.2.2.2.2.2.2.2.2.2)) := hD
  obtain rfl := Option.some.inj hF
  exact W.vret hx hb hr (fun t ht hW => ⟨⟨_, rfl, rfl, bw_end hP hK hD ht hW⟩, hS.F ht⟩) hS.2.2 d_I_clear_5
def f_I_balance_8 (a0 : Int64) : Nat → sK → Int32 → Int64 → Int64 → Option ((Int32 × sK) ⊕ (sK × Int32 × Int64 × Int64))
  | 0, _, _, _, _ => none
  | n + 1, g4, u1, u2, u3 => if g4.2.2.2.2.2.2.2.1 ≤ u1 then (some (.inr (g4, u1, u2, u3))) else (if u1 < 0 ∨ 8 ≤ Int32.toNatClampNeg u1 then none else (Option.bind (f_C_pointAt (Int32.toInt64 (g4.2.2.2.2.2.1 (Int32.toNatClampNeg u1))) 0) (fun r14 => if (lg_cmp r14 0) = 0 then (some (.inl (0, g4))) else (if u1 < 0 ∨ 8 ≤ Int32.toNatClampNeg u1 then none else (Option.bind (f_S_has (Int32.toInt64 (g4.2.2.2.2.2.2.1 (Int32.toNatClampNeg u1)))) (fun r16 => if r16 = 0 then (some (.inl (0, g4))) else (Option.bind (f_I_weight a0 u1) (fun r17 => if u1 < 0 ∨ 8 ≤ Int32.toNatClampNeg u1 then none else (if u1 < 0 ∨ 8 ≤ Int32.toNatClampNeg u1 then none else (Option.bind (f_C_xOf (g4.2.2.2.1 (Int32.toNatClampNeg u1))) (fun r20 => if u1 < 0 ∨ 8 ≤ Int32.toNatClampNeg u1 then none else (Option.bind (f_K_challenge (Int32.toInt64 (g4.2.2.2.2.2.1 (Int32.toNatClampNeg u1))) r20 (g4.2.2.2.2.1 (Int32.toNatClampNeg u1))) (fun r22 => if u1 < 0 ∨ 8 ≤ Int32.toNatClampNeg u1 then none else (Option.bind (some ((u3 + (r17 * (Int32.toInt64 (g4.2.2.2.2.2.2.1 (Int32.toNatClampNeg u1))))) - (u3 + (r17 * (Int32.toInt64 (g4.2.2.2.2.2.2.1 (Int32.toNatClampNeg u1))))) / 1073729077 * 1073729077)) (fun v24 => if u1 < 0 ∨ 8 ≤ Int32.toNatClampNeg u1 then none else (Option.bind (f_C_sumOfMultiples r17 r14 ((r17 * r22) - (r17 * r22) / 1073729077 * 1073729077) (g4.2.2.2.1 (Int32.toNatClampNeg u1))) (fun r26 => Option.bind (f_C_sum u2 r26) (fun r27 => Option.bind (some (u1 + 1)) (fun v28 => f_I_balance_8 a0 n g4 v28 r27 v24)))))))))))))))))))
def f_I_balance (g0 : sK) (a0 : Int64) : Option (Int32 × sK) := Option.bind (f_I_balance_8 a0 64 g0 0 0 0) (fun t30 => match t30 with | .inl r9 => some r9 | .inr (o6, o7, o8, o9) => (Option.bind (f_C_multiple o9 4411025356) (fun r31 => Option.bind (if (lg_cmp r31 o8) = 0 then (some (1) : Option (Int32)) else (some (0))) (fun j32 => if j32 = 0 ∨ j32 = 1 then some (j32, o6) else none))))
abbrev rm_I_balance : Room := { frames := 5, cells := 0, slots := 0, locals := 147 }
set_option maxHeartbeats 4000000 in
set_option maxRecDepth 100000 in
theorem k_I_balance (l : Launch) (D : va_G) (A : Nat → Nat) (cc : Nat → ClassId) (g0 : sK) (a0 : Int64) (sz : Nat) (res : (Int32 × sK)) (hF : f_I_balance g0 a0 = some res) : Met l y_I_balance (Cond.code y_I_balance b_I_balance 16 (some .boolean) :: wa) rm_I_balance (pw D (wK A cc g0) (kK cc) [.ref (A 3), .long a0] sz) (va_Qi (fun r u => (r, u) = res) (bw D (wK A cc) (kK cc) (va_A (wK A cc g0) sz)) (va_A (wK A cc g0) sz)) 0 0 (va_A (wK A cc g0) sz) := by
  refine Met.ofW (cc := b_I_balance) (maxL := 16) (ret := (some .boolean)) (by decide) rfl ?_
  intro p e s m args below meth c s₁ B hml hv
  obtain ⟨rfl, hsz, hP, hK, hD0, hN⟩ := hv
  have hx := B.exec
  have hb := B.bytes
  have hr := B.returns
  have hts := atoms_spec (ws := Cond.code y_I_balance b_I_balance 16 (some .boolean) :: wa) B.pre
  have hw : ∀ w ∈ wa, w.before _ s = true := fun w h => hts w (List.mem_cons_of_mem _ h)
  have hown : s.vm.findClass R_I = some m.cls := findClass_of_methodNamed B.named
  have hlocks := B.notSynchronized
  subst hsz
  have hD := hD0.self (sz := s.heap.size)
  generalize hAe : va_A (wK A cc g0) s.heap.size = AA at hD ⊢
  have hA : ∀ q : Nat, s.heap.size ≤ q → AA q := fun q h => by rw [← hAe]; exact Or.inr h
  have hS : va_S AA s.heap s.heap [] := va_S.rf
  have hl := lv_entry ([.ref (A 3), .long a0]) (n := 16) (Nat.le_of_ble_eq_true rfl)
  rw [lg_entry_eq]
  generalize (lg_sl ([.ref (A 3), .long a0]) ++ List.replicate (16 - (lg_sl ([.ref (A 3), .long a0])).length) Slot.unset).toArray = ls at hl ⊢
  have hl : lv_has ls 16 [(0, .ref (A 3)), (1, .long a0)] := hl
  unfold f_I_balance at hF
  refine lv_lconst (v := 0) hx hb d_I_balance_0 (by decide) ?_
  refine lv_lstore_n hx hb d_I_balance_1 rfl hl (by decide) (lv' := [(3, .long 0), (0, .ref (A 3)), (1, .long a0)]) rfl (fun ls hl => ?_)
  refine lv_lconst (v := 0) hx hb d_I_balance_2 (by decide) ?_
  refine lv_lstore hx hb d_I_balance_3 hl (by decide) (lv' := [(5, .long 0), (3, .long 0), (0, .ref (A 3)), (1, .long a0)]) rfl (fun ls hl => ?_)
  refine lv_iconst (v := 0) hx hb d_I_balance_5 (by decide) ?_
  refine lv_istore hx hb d_I_balance_6 hl (by decide) (lv' := [(7, .int 0), (5, .long 0), (3, .long 0), (0, .ref (A 3)), (1, .long a0)]) rfl (fun ls hl => ?_)
  obtain ⟨x12, q29, hF⟩ := Option.bind_eq_some_iff.mp hF
  have k11 : ∀ r9, x12 = .inl r9 → res = r9 := by
    intro r9 h9
    subst h9
    exact (Option.some.inj hF).symm
  have k10 : ∀ (o6 : sK) (o7 : Int32) (o8 : Int64) (o9 : Int64), x12 = .inr (o6, o7, o8, o9) → ∀ (H : Heap) (locs : List Loc) (ls : Array Slot), va_P D vwC (wK A cc o6) H → va_D AA (wK A cc o6) → va_S AA s.heap H locs → lv_has ls 16 [(7, .int o7), (5, .long o8), (3, .long o9), (0, .ref (A 3)), (1, .long a0)] → W p l e rm_I_balance s m ([Value.ref (A 3), Value.long a0] : List Value).toArray below meth c H locs 0 0 (MQ below (va_Qi (fun r u => (r, u) = res) (bw D (wK A cc) (kK cc) AA) AA) ([Value.ref (A 3), Value.long a0] : List Value).toArray s 0 0 AA) (F0 m 150 ls []) := by
    intro o6 o7 o8 o9 h9 H locs ls hP hD hS hl
    subst h9
    refine lv_lload_n hx hb d_I_balance_150 rfl (lv_at hl 2 rfl) ?_
    refine lv_ldc2 (v := 4411025356) hx hb hown (hw _ ww_169) d_I_balance_151 ?_
    obtain ⟨r31, e_r31, hF⟩ := Option.bind_eq_some_iff.mp hF
    refine vp_callSl (va_runS (As := [.long o9, .long 4411025356]) (rest := []) ⟨hx, hb, hml, hown, hts⟩ (k_C_multiple l o9 4411025356 r31 e_r31) (va_cwS 2 hts (ga_S ww_170 ww_152 ww_11 ww_153) rfl rfl rfl (by decide +kernel) ⟨by decide, by decide⟩) (pcs_pre hN) rfl rfl hl.1 rfl (lv_room (Nat.le_of_ble_eq_true rfl)) d_I_balance_154 ⟨Nat.zero_le _, Nat.zero_le _⟩).run (fun z9 hz9 => ?_)
    obtain rfl : r31 = z9 := hz9.symm
    refine lv_lload hx hb d_I_balance_157 (lv_at hl 1 rfl) ?_
    refine W.lcmp hx hb d_I_balance_159 ?_
    obtain ⟨j32, q34, hF⟩ := Option.bind_eq_some_iff.mp hF
    have k33 : ∀ (H : Heap) (locs : List Loc) (ls : Array Slot), va_P D vwC (wK A cc o6) H → va_D AA (wK A cc o6) → va_S AA s.heap H locs → lv_has ls 16 [] → W p l e rm_I_balance s m ([Value.ref (A 3), Value.long a0] : List Value).toArray below meth c H locs 0 0 (MQ below (va_Qi (fun r u => (r, u) = res) (bw D (wK A cc) (kK cc) AA) AA) ([Value.ref (A 3), Value.long a0] : List Value).toArray s 0 0 AA) (F0 m 168 ls [.int j32]) := by
      intro H locs ls hP hD hS hl
      by_cases h36 : ¬ (j32 = 0 ∨ j32 = 1)
      · have h0 := (if_neg h36).symm.trans hF; cases h0
      have h36 := Classical.not_not.mp h36
      have hF := (if_pos h36).symm.trans hF
      obtain rfl := Option.some.inj hF
      exact W.zret hx hb hr (nz_b h36) (fun t ht hW => ⟨⟨_, _, rfl, rfl, bw_end hP hK hD ht hW⟩, hS.F ht⟩) hS.2.2 d_I_balance_168
    clear hF
    have hF := q34
    refine lv_if_ne hx hb d_I_balance_160 (tgt := 167) (by decide) (fun h9 => ?_) (fun h9 => ?_)
    · have hF := (if_neg h9).symm.trans hF
      refine lv_iconst (v := 0) hx hb d_I_balance_167 (by decide) ?_
      obtain rfl := Option.some.inj hF
      exact k33 _ _ ls hP hD hS (lv_sub hl [] rfl)
    · have hF := (if_pos h9).symm.trans hF
      refine lv_iconst (v := 1) hx hb d_I_balance_163 (by decide) ?_
      refine lv_goto hx hb d_I_balance_164 (tgt := 168) (by decide) ?_
      obtain rfl := Option.some.inj hF
      exact k33 _ _ ls hP hD hS (lv_sub hl [] rfl)
  clear hF
  have k5 : ∀ (n : Nat) (g4 : sK) (u1 : Int32) (u2 : Int64) (u3 : Int64) (H : Heap) (locs : List Loc) (ls : Array Slot), va_P D vwC (wK A cc g4) H → va_D AA (wK A cc g4) → va_S AA s.heap H locs → lv_has ls 16 [(7, .int u1), (5, .long u2), (3, .long u3), (0, .ref (A 3)), (1, .long a0)] → f_I_balance_8 a0 n g4 u1 u2 u3 = some x12 → W p l e rm_I_balance s m ([Value.ref (A 3), Value.long a0] : List Value).toArray below meth c H locs 0 0 (MQ below (va_Qi (fun r u => (r, u) = res) (bw D (wK A cc) (kK cc) AA) AA) ([Value.ref (A 3), Value.long a0] : List Value).toArray s 0 0 AA) (F0 m 8 ls []) := by
    intro n
    induction n with
    | zero => intro g4 u1 u2 u3 H locs ls hP hD hS hl hF; cases hF
    | succ n ih =>
      intro g4 u1 u2 u3 H locs ls hP hD hS hl hF
      rw [f_I_balance_8] at hF
      refine lv_iload hx hb d_I_balance_8 (lv_at hl 0 rfl) ?_
      refine lv_aload_n hx hb d_I_balance_10 rfl (lv_at hl 3 rfl) ?_
      refine va_get (D := D) (ci := 0) (v := .int g4.2.2.2.2.2.2.2.1) (C := R_I) (T := T_I) (N := 5) hx hb hts in_I hown hK hP 3 rfl rfl 4 (by decide) (hw _ ww_35) (fun _ h9 => h9) rfl d_I_balance_11 ?_
      refine lv_icmp_ge hx hb d_I_balance_14 (tgt := 150) (by decide) (fun h9 => ?_) (fun h9 => ?_)
      · have hF := (if_pos h9).symm.trans hF
        exact k10 g4 u1 u2 u3 (Option.some.inj hF).symm _ _ ls hP hD hS (lv_sub hl [0, 1, 2, 3, 4] rfl)
      · have hF := (if_neg h9).symm.trans hF
        refine lv_aload_n hx hb d_I_balance_17 rfl (lv_at hl 3 rfl) ?_
        refine va_get (D := D) (ci := 0) (v := .ref (A 6)) (C := R_I) (T := T_I) (N := 5) hx hb hts in_I hown hK hP 3 rfl rfl 2 (by decide) (hw _ ww_33) (fun _ h9 => h9) rfl d_I_balance_18 ?_
        refine lv_iload hx hb d_I_balance_21 (lv_at hl 0 rfl) ?_
        by_cases h13 : u1 < 0 ∨ 8 ≤ Int32.toNatClampNeg u1
        · have h0 := (if_pos h13).symm.trans hF; cases h0
        have hF := (if_neg h13).symm.trans hF
        refine va_iald hx hb hK hP 6 4 rfl rfl h13 d_I_balance_23 ?_
        refine lv_i2l (v := Int32.toInt64 (g4.2.2.2.2.2.1 (Int32.toNatClampNeg u1))) hx hb d_I_balance_24 rfl ?_
        refine lv_iconst (v := 0) hx hb d_I_balance_25 (by decide) ?_
        obtain ⟨r14, e_r14, hF⟩ := Option.bind_eq_some_iff.mp hF
        refine vp_callSl (va_runS (As := [.long (Int32.toInt64 (g4.2.2.2.2.2.1 (Int32.toNatClampNeg u1))), .int 0]) (rest := []) ⟨hx, hb, hml, hown, hts⟩ (k_C_pointAt l (Int32.toInt64 (g4.2.2.2.2.2.1 (Int32.toNatClampNeg u1))) 0 r14 e_r14) (va_cwS 2 hts (ga_S ww_124 ww_83 ww_11 ww_84) rfl rfl rfl (by decide +kernel) ⟨by decide, by decide⟩) (pcs_pre hN) rfl rfl hl.1 rfl (lv_room (Nat.le_of_ble_eq_true rfl)) d_I_balance_26 ⟨Nat.zero_le _, Nat.zero_le _⟩).run (fun z9 hz9 => ?_)
        obtain rfl : r14 = z9 := hz9.symm
        refine lv_lstore hx hb d_I_balance_29 hl (by decide) (lv' := [(8, .long r14), (7, .int u1), (5, .long u2), (3, .long u3), (0, .ref (A 3)), (1, .long a0)]) rfl (fun ls hl => ?_)
        refine lv_lload hx hb d_I_balance_31 (lv_at hl 0 rfl) ?_
        refine lv_lconst (v := 0) hx hb d_I_balance_33 (by decide) ?_
        refine W.lcmp hx hb d_I_balance_34 ?_
        refine lv_if_eq hx hb d_I_balance_35 (tgt := 52) (by decide) (fun h9 => ?_) (fun h9 => ?_)
        · have hF := (if_pos h9).symm.trans hF
          refine lv_iconst (v := 0) hx hb d_I_balance_52 (by decide) ?_
          obtain rfl := k11 _ (Option.some.inj hF).symm
          exact W.zret hx hb hr (by decide) (fun t ht hW => ⟨⟨_, _, rfl, rfl, bw_end hP hK hD ht hW⟩, hS.F ht⟩) hS.2.2 d_I_balance_53
        · have hF := (if_neg h9).symm.trans hF
          refine lv_aload_n hx hb d_I_balance_38 rfl (lv_at hl 4 rfl) ?_
          refine va_get (D := D) (ci := 0) (v := .ref (A 7)) (C := R_I) (T := T_I) (N := 5) hx hb hts in_I hown hK hP 3 rfl rfl 3 (by decide) (hw _ ww_34) (fun _ h9 => h9) rfl d_I_balance_39 ?_
          refine lv_iload hx hb d_I_balance_42 (lv_at hl 1 rfl) ?_
          by_cases h15 : u1 < 0 ∨ 8 ≤ Int32.toNatClampNeg u1
          · have h0 := (if_pos h15).symm.trans hF; cases h0
          have hF := (if_neg h15).symm.trans hF
          refine va_iald hx hb hK hP 7 5 rfl rfl h15 d_I_balance_44 ?_
          refine lv_i2l (v := Int32.toInt64 (g4.2.2.2.2.2.2.1 (Int32.toNatClampNeg u1))) hx hb d_I_balance_45 rfl ?_
          obtain ⟨r16, e_r16, hF⟩ := Option.bind_eq_some_iff.mp hF
          refine vp_callSi (va_runS (As := [.long (Int32.toInt64 (g4.2.2.2.2.2.2.1 (Int32.toNatClampNeg u1)))]) (rest := []) ⟨hx, hb, hml, hown, hts⟩ (k_S_has l (Int32.toInt64 (g4.2.2.2.2.2.2.1 (Int32.toNatClampNeg u1))) r16 e_r16) (va_cwS 1 hts (ga_S ww_125 ww_126 ww_9 ww_127) rfl rfl rfl (by decide +kernel) ⟨by decide, by decide⟩) (pcs_pre hN) rfl rfl hl.1 rfl (lv_room (Nat.le_of_ble_eq_true rfl)) d_I_balance_46 ⟨Nat.zero_le _, Nat.zero_le _⟩).run (fun z9 hz9 => ?_)
          obtain rfl : r16 = z9 := hz9.symm
          refine lv_if_ne hx hb d_I_balance_49 (tgt := 54) (by decide) (fun h9 => ?_) (fun h9 => ?_)
          · have hF := (if_neg h9).symm.trans hF
            refine lv_lload_n hx hb d_I_balance_54 rfl (lv_at hl 5 rfl) ?_
            refine lv_iload hx hb d_I_balance_55 (lv_at hl 1 rfl) ?_
            obtain ⟨r17, e_r17, hF⟩ := Option.bind_eq_some_iff.mp hF
            refine vp_callSl (va_runS (As := [.long a0, .int u1]) (rest := []) ⟨hx, hb, hml, hown, hts⟩ (k_I_weight l a0 u1 r17 e_r17) (va_cwS 2 hts (ga_S ww_129 ww_130 ww_2 ww_131) rfl rfl rfl (by decide +kernel) ⟨by decide, by decide⟩) (pcs_pre hN) rfl rfl hl.1 rfl (lv_room (Nat.le_of_ble_eq_true rfl)) d_I_balance_57 ⟨Nat.zero_le _, Nat.zero_le _⟩).run (fun z9 hz9 => ?_)
            obtain rfl : r17 = z9 := hz9.symm
            refine lv_lstore hx hb d_I_balance_60 hl (by decide) (lv' := [(10, .long r17), (8, .long r14), (7, .int u1), (5, .long u2), (3, .long u3), (0, .ref (A 3)), (1, .long a0)]) rfl (fun ls hl => ?_)
            refine lv_aload_n hx hb d_I_balance_62 rfl (lv_at hl 5 rfl) ?_
            refine va_get (D := D) (ci := 0) (v := .ref (A 6)) (C := R_I) (T := T_I) (N := 5) hx hb hts in_I hown hK hP 3 rfl rfl 2 (by decide) (hw _ ww_33) (fun _ h9 => h9) rfl d_I_balance_63 ?_
            refine lv_iload hx hb d_I_balance_66 (lv_at hl 2 rfl) ?_
            by_cases h18 : u1 < 0 ∨ 8 ≤ Int32.toNatClampNeg u1
            · have h0 := (if_pos h18).symm.trans hF; cases h0
            have hF := (if_neg h18).symm.trans hF
            refine va_iald hx hb hK hP 6 4 rfl rfl h18 d_I_balance_68 ?_
            refine lv_i2l (v := Int32.toInt64 (g4.2.2.2.2.2.1 (Int32.toNatClampNeg u1))) hx hb d_I_balance_69 rfl ?_
            refine lv_aload_n hx hb d_I_balance_70 rfl (lv_at hl 5 rfl) ?_
            refine va_get (D := D) (ci := 0) (v := .ref (A 4)) (C := R_I) (T := T_I) (N := 5) hx hb hts in_I hown hK hP 3 rfl rfl 0 (by decide) (hw _ ww_31) (fun _ h9 => h9) rfl d_I_balance_71 ?_
            refine lv_iload hx hb d_I_balance_74 (lv_at hl 2 rfl) ?_
            by_cases h19 : u1 < 0 ∨ 8 ≤ Int32.toNatClampNeg u1
            · have h0 := (if_pos h19).symm.trans hF; cases h0
            have hF := (if_neg h19).symm.trans hF
            refine va_lald hx hb hK hP 4 2 rfl rfl h19 d_I_balance_76 ?_
            obtain ⟨r20, e_r20, hF⟩ := Option.bind_eq_some_iff.mp hF
            refine vp_callSl (va_runS (As := [.long (g4.2.2.2.1 (Int32.toNatClampNeg u1))]) (rest := [.long (Int32.toInt64 (g4.2.2.2.2.2.1 (Int32.toNatClampNeg u1)))]) ⟨hx, hb, hml, hown, hts⟩ (k_C_xOf l (g4.2.2.2.1 (Int32.toNatClampNeg u1)) r20 e_r20) (va_cwS 1 hts (ga_S ww_139 ww_104 ww_11 ww_105) rfl rfl rfl (by decide +kernel) ⟨by decide, by decide⟩) (pcs_pre hN) rfl rfl hl.1 rfl (lv_room (Nat.le_of_ble_eq_true rfl)) d_I_balance_77 ⟨Nat.zero_le _, Nat.zero_le _⟩).run (fun z9 hz9 => ?_)
            obtain rfl : r20 = z9 := hz9.symm
            refine lv_aload_n hx hb d_I_balance_80 rfl (lv_at hl 5 rfl) ?_
            refine va_get (D := D) (ci := 0) (v := .ref (A 5)) (C := R_I) (T := T_I) (N := 5) hx hb hts in_I hown hK hP 3 rfl rfl 1 (by decide) (hw _ ww_32) (fun _ h9 => h9) rfl d_I_balance_81 ?_
            refine lv_iload hx hb d_I_balance_84 (lv_at hl 2 rfl) ?_
            by_cases h21 : u1 < 0 ∨ 8 ≤ Int32.toNatClampNeg u1
            · have h0 := (if_pos h21).symm.trans hF; cases h0
            have hF := (if_neg h21).symm.trans hF
            refine va_lald hx hb hK hP 5 3 rfl rfl h21 d_I_balance_86 ?_
            obtain ⟨r22, e_r22, hF⟩ := Option.bind_eq_some_iff.mp hF
            refine vp_callSl (va_runSN (As := [.long (Int32.toInt64 (g4.2.2.2.2.2.1 (Int32.toNatClampNeg u1))), .long r20, .long (g4.2.2.2.2.1 (Int32.toNatClampNeg u1))]) (rest := []) ⟨hx, hb, hml, hown, hts⟩ (k_K_challenge l (Int32.toInt64 (g4.2.2.2.2.2.1 (Int32.toNatClampNeg u1))) r20 (g4.2.2.2.2.1 (Int32.toNatClampNeg u1)) r22 e_r22) ⟨va_cnB 3 hts (ga_N ww_142) rfl rfl rfl (hN _ nl_3) (hw _ ww_1) (by decide +kernel) ⟨by decide, by decide⟩, hw _ ww_141, trivial⟩ (pcs_pre hN) rfl rfl hl.1 rfl (lv_room (Nat.le_of_ble_eq_true rfl)) d_I_balance_87 ⟨Nat.zero_le _, Nat.zero_le _⟩).run (fun z9 hz9 => ?_)
            obtain rfl : r22 = z9 := hz9.symm
            refine lv_lstore hx hb d_I_balance_90 hl (by decide) (lv' := [(12, .long r22), (10, .long r17), (8, .long r14), (7, .int u1), (5, .long u2), (3, .long u3), (0, .ref (A 3)), (1, .long a0)]) rfl (fun ls hl => ?_)
            refine lv_lload_n hx hb d_I_balance_92 rfl (lv_at hl 5 rfl) ?_
            refine lv_lload hx hb d_I_balance_93 (lv_at hl 1 rfl) ?_
            refine lv_aload_n hx hb d_I_balance_95 rfl (lv_at hl 6 rfl) ?_
            refine va_get (D := D) (ci := 0) (v := .ref (A 7)) (C := R_I) (T := T_I) (N := 5) hx hb hts in_I hown hK hP 3 rfl rfl 3 (by decide) (hw _ ww_34) (fun _ h9 => h9) rfl d_I_balance_96 ?_
            refine lv_iload hx hb d_I_balance_99 (lv_at hl 3 rfl) ?_
            by_cases h23 : u1 < 0 ∨ 8 ≤ Int32.toNatClampNeg u1
            · have h0 := (if_pos h23).symm.trans hF; cases h0
            have hF := (if_neg h23).symm.trans hF
            refine va_iald hx hb hK hP 7 5 rfl rfl h23 d_I_balance_101 ?_
            refine lv_i2l (v := Int32.toInt64 (g4.2.2.2.2.2.2.1 (Int32.toNatClampNeg u1))) hx hb d_I_balance_102 rfl ?_
            refine lv_lmul hx hb d_I_balance_103 ?_
            refine lv_ladd hx hb d_I_balance_104 ?_
            refine lv_ldc2 (v := 1073729077) hx hb hown (hw _ ww_147) d_I_balance_105 ?_
            refine lv_lrem hx hb d_I_balance_108 (by decide) ?_
            obtain ⟨v24, e_v24, hF⟩ := Option.bind_eq_some_iff.mp hF
            refine nm_l (Option.some.inj e_v24) ?_
            refine lv_lstore_n hx hb d_I_balance_109 rfl hl (by decide) (lv' := [(3, .long v24), (12, .long r22), (10, .long r17), (8, .long r14), (7, .int u1), (5, .long u2), (0, .ref (A 3)), (1, .long a0)]) rfl (fun ls hl => ?_)
            refine lv_lload hx hb d_I_balance_110 (lv_at hl 2 rfl) ?_
            refine lv_lload hx hb d_I_balance_112 (lv_at hl 3 rfl) ?_
            refine lv_lload hx hb d_I_balance_114 (lv_at hl 2 rfl) ?_
            refine lv_lload hx hb d_I_balance_116 (lv_at hl 1 rfl) ?_
            refine lv_lmul hx hb d_I_balance_118 ?_
            refine lv_ldc2 (v := 1073729077) hx hb hown (hw _ ww_147) d_I_balance_119 ?_
            refine lv_lrem hx hb d_I_balance_122 (by decide) ?_
            refine lv_aload_n hx hb d_I_balance_123 rfl (lv_at hl 6 rfl) ?_
            refine va_get (D := D) (ci := 0) (v := .ref (A 4)) (C := R_I) (T := T_I) (N := 5) hx hb hts in_I hown hK hP 3 rfl rfl 0 (by decide) (hw _ ww_31) (fun _ h9 => h9) rfl d_I_balance_124 ?_
            refine lv_iload hx hb d_I_balance_127 (lv_at hl 4 rfl) ?_
            by_cases h25 : u1 < 0 ∨ 8 ≤ Int32.toNatClampNeg u1
            · have h0 := (if_pos h25).symm.trans hF; cases h0
            have hF := (if_neg h25).symm.trans hF
            refine va_lald hx hb hK hP 4 2 rfl rfl h25 d_I_balance_129 ?_
            obtain ⟨r26, e_r26, hF⟩ := Option.bind_eq_some_iff.mp hF
            refine vp_callSl (va_runS (As := [.long r17, .long r14, .long ((r17 * r22) - (r17 * r22) / 1073729077 * 1073729077), .long (g4.2.2.2.1 (Int32.toNatClampNeg u1))]) (rest := []) ⟨hx, hb, hml, hown, hts⟩ (k_C_sumOfMultiples l r17 r14 ((r17 * r22) - (r17 * r22) / 1073729077 * 1073729077) (g4.2.2.2.1 (Int32.toNatClampNeg u1)) r26 e_r26) (va_cwS 4 hts (ga_S ww_148 ww_149 ww_11 ww_150) rfl rfl rfl (by decide +kernel) ⟨by decide, by decide⟩) (pcs_pre hN) rfl rfl hl.1 rfl (lv_room (Nat.le_of_ble_eq_true rfl)) d_I_balance_130 ⟨Nat.zero_le _, Nat.zero_le _⟩).run (fun z9 hz9 => ?_)
            obtain rfl : r26 = z9 := hz9.symm
            refine lv_lstore hx hb d_I_balance_133 hl (by decide) (lv' := [(14, .long r26), (3, .long v24), (12, .long r22), (10, .long r17), (8, .long r14), (7, .int u1), (5, .long u2), (0, .ref (A 3)), (1, .long a0)]) rfl (fun ls hl => ?_)
            refine lv_lload hx hb d_I_balance_135 (lv_at hl 6 rfl) ?_
            refine lv_lload hx hb d_I_balance_137 (lv_at hl 0 rfl) ?_
            obtain ⟨r27, e_r27, hF⟩ := Option.bind_eq_some_iff.mp hF
            refine vp_callSl (va_runS (As := [.long u2, .long r26]) (rest := []) ⟨hx, hb, hml, hown, hts⟩ (k_C_sum l u2 r26 r27 e_r27) (va_cwS 2 hts (ga_S ww_168 ww_155 ww_11 ww_156) rfl rfl rfl (by decide +kernel) ⟨by decide, by decide⟩) (pcs_pre hN) rfl rfl hl.1 rfl (lv_room (Nat.le_of_ble_eq_true rfl)) d_I_balance_139 ⟨Nat.zero_le _, Nat.zero_le _⟩).run (fun z9 hz9 => ?_)
            obtain rfl : r27 = z9 := hz9.symm
            refine lv_lstore hx hb d_I_balance_142 hl (by decide) (lv' := [(5, .long r27), (14, .long r26), (3, .long v24), (12, .long r22), (10, .long r17), (8, .long r14), (7, .int u1), (0, .ref (A 3)), (1, .long a0)]) rfl (fun ls hl => ?_)
            obtain ⟨v28, e_v28, hF⟩ := Option.bind_eq_some_iff.mp hF
            refine lv_iinc hx hb d_I_balance_144 hl (k := 6) (v := v28) rfl ((show _ = u1 + 1 from rfl).trans (Option.some.inj e_v28)) (by decide) (lv' := [(7, .int v28), (5, .long r27), (14, .long r26), (3, .long v24), (12, .long r22), (10, .long r17), (8, .long r14), (0, .ref (A 3)), (1, .long a0)]) rfl (fun ls hl => ?_)
            refine lv_goto hx hb d_I_balance_147 (tgt := 8) (by decide) ?_
            exact ih g4 v28 r27 v24 _ _ ls hP hD hS (lv_sub hl [0, 1, 3, 7, 8] rfl) hF
          · have hF := (if_pos h9).symm.trans hF
            refine lv_iconst (v := 0) hx hb d_I_balance_52 (by decide) ?_
            obtain rfl := k11 _ (Option.some.inj hF).symm
            exact W.zret hx hb hr (by decide) (fun t ht hW => ⟨⟨_, _, rfl, rfl, bw_end hP hK hD ht hW⟩, hS.F ht⟩) hS.2.2 d_I_balance_53
  exact k5 64 g0 0 0 0 _ _ ls hP hD hS (lv_sub hl [0, 1, 2, 3, 4] rfl) q29
def f_T_isFull (g0 : sK)  : Option (Int32 × sK) := Option.bind (if g0.2.2.2.2.2.2.2.2.2 < 20 then (some (0) : Option (Int32)) else (some (1))) (fun j1 => if j1 = 0 ∨ j1 = 1 then some (j1, g0) else none)
abbrev rm_T_isFull : Room := { frames := 0, cells := 0, slots := 0, locals := 0 }
set_option maxHeartbeats 4000000 in
set_option maxRecDepth 100000 in
theorem k_T_isFull (l : Launch) (D : va_G) (A : Nat → Nat) (cc : Nat → ClassId) (g0 : sK)  (sz : Nat) (res : (Int32 × sK)) (hF : f_T_isFull g0  = some res) : Met l y_T_isFull (Cond.code y_T_isFull b_T_isFull 1 (some .boolean) :: wa) rm_T_isFull (pw D (wK A cc g0) (kK cc) [.ref (A 8)] sz) (va_Qi (fun r u => (r, u) = res) (bw D (wK A cc) (kK cc) (va_A (wK A cc g0) sz)) (va_A (wK A cc g0) sz)) 0 0 (va_A (wK A cc g0) sz) := by
  refine Met.ofW (cc := b_T_isFull) (maxL := 1) (ret := (some .boolean)) (by decide) rfl ?_
  intro p e s m args below meth c s₁ B hml hv
  obtain ⟨rfl, hsz, hP, hK, hD0, hN⟩ := hv
  have hx := B.exec
  have hb := B.bytes
  have hr := B.returns
  have hts := atoms_spec (ws := Cond.code y_T_isFull b_T_isFull 1 (some .boolean) :: wa) B.pre
  have hw : ∀ w ∈ wa, w.before _ s = true := fun w h => hts w (List.mem_cons_of_mem _ h)
  have hown : s.vm.findClass R_T = some m.cls := findClass_of_methodNamed B.named
  have hlocks := B.notSynchronized
  subst hsz
  have hD := hD0.self (sz := s.heap.size)
  generalize hAe : va_A (wK A cc g0) s.heap.size = AA at hD ⊢
  have hA : ∀ q : Nat, s.heap.size ≤ q → AA q := fun q h => by rw [← hAe]; exact Or.inr h
  have hS : va_S AA s.heap s.heap [] := va_S.rf
  have hl := lv_entry ([.ref (A 8)]) (n := 1) (Nat.le_of_ble_eq_true rfl)
  rw [lg_entry_eq]
  generalize (lg_sl ([.ref (A 8)]) ++ List.replicate (1 - (lg_sl ([.ref (A 8)])).length) Slot.unset).toArray = ls at hl ⊢
  have hl : lv_has ls 1 [(0, .ref (A 8))] := hl
  unfold f_T_isFull at hF
  refine lv_aload_n hx hb d_T_isFull_0 rfl (lv_at hl 0 rfl) ?_
  refine va_get (D := D) (ci := 1) (v := .int g0.2.2.2.2.2.2.2.2.2) (C := R_T) (T := T_T) (N := 2) hx hb hts in_T hown hK hP 8 rfl rfl 1 (by decide) (hw _ ww_56) (fun _ h9 => h9) rfl d_T_isFull_1 ?_
  refine lv_bipush (v := 20) hx hb d_T_isFull_4 (by decide) ?_
  obtain ⟨j1, q3, hF⟩ := Option.bind_eq_some_iff.mp hF
  have k2 : ∀ (H : Heap) (locs : List Loc) (ls : Array Slot), va_P D vwC (wK A cc g0) H → va_D AA (wK A cc g0) → va_S AA s.heap H locs → lv_has ls 1 [] → W p l e rm_T_isFull s m ([Value.ref (A 8)] : List Value).toArray below meth c H locs 0 0 (MQ below (va_Qi (fun r u => (r, u) = res) (bw D (wK A cc) (kK cc) AA) AA) ([Value.ref (A 8)] : List Value).toArray s 0 0 AA) (F0 m 14 ls [.int j1]) := by
    intro H locs ls hP hD hS hl
    by_cases h5 : ¬ (j1 = 0 ∨ j1 = 1)
    · have h0 := (if_neg h5).symm.trans hF; cases h0
    have h5 := Classical.not_not.mp h5
    have hF := (if_pos h5).symm.trans hF
    obtain rfl := Option.some.inj hF
    exact W.zret hx hb hr (nz_b h5) (fun t ht hW => ⟨⟨_, _, rfl, rfl, bw_end hP hK hD ht hW⟩, hS.F ht⟩) hS.2.2 d_T_isFull_14
  clear hF
  have hF := q3
  refine lv_icmp_lt hx hb d_T_isFull_6 (tgt := 13) (by decide) (fun h9 => ?_) (fun h9 => ?_)
  · have hF := (if_pos h9).symm.trans hF
    refine lv_iconst (v := 0) hx hb d_T_isFull_13 (by decide) ?_
    obtain rfl := Option.some.inj hF
    exact k2 _ _ ls hP hD hS (lv_sub hl [] rfl)
  · have hF := (if_neg h9).symm.trans hF
    refine lv_iconst (v := 1) hx hb d_T_isFull_9 (by decide) ?_
    refine lv_goto hx hb d_T_isFull_10 (tgt := 14) (by decide) ?_
    obtain rfl := Option.some.inj hF
    exact k2 _ _ ls hP hD hS (lv_sub hl [] rfl)
def f_T_put (g0 : sK) (a0 : Int32) : Option (Int32 × sK) := if g0.2.2.2.2.2.2.2.2.2 < 0 ∨ 20 ≤ Int32.toNatClampNeg g0.2.2.2.2.2.2.2.2.2 then none else (some ((g0.2.2.2.2.2.2.2.2.2 + 1), (g0.1, g0.2.1, g0.2.2.1, g0.2.2.2.1, g0.2.2.2.2.1, g0.2.2.2.2.2.1, g0.2.2.2.2.2.2.1, g0.2.2.2.2.2.2.2.1, (upd g0.2.2.2.2.2.2.2.2.1 (Int32.toNatClampNeg g0.2.2.2.2.2.2.2.2.2) a0), (g0.2.2.2.2.2.2.2.2.2 + 1))))
abbrev rm_T_put : Room := { frames := 0, cells := 0, slots := 0, locals := 0 }
set_option maxHeartbeats 4000000 in
set_option maxRecDepth 100000 in
theorem k_T_put (l : Launch) (D : va_G) (A : Nat → Nat) (cc : Nat → ClassId) (g0 : sK) (a0 : Int32) (sz : Nat) (res : (Int32 × sK)) (hF : f_T_put g0 a0 = some res) : Met l y_T_put (Cond.code y_T_put b_T_put 2 (some .int) :: wa) rm_T_put (pw D (wK A cc g0) (kK cc) [.ref (A 8), .int a0] sz) (va_Qi (fun r u => (r, u) = res) (bw D (wK A cc) (kK cc) (va_A (wK A cc g0) sz)) (va_A (wK A cc g0) sz)) 0 0 (va_A (wK A cc g0) sz) := by
  refine Met.ofW (cc := b_T_put) (maxL := 2) (ret := (some .int)) (by decide) rfl ?_
  intro p e s m args below meth c s₁ B hml hv
  obtain ⟨rfl, hsz, hP, hK, hD0, hN⟩ := hv
  have hx := B.exec
  have hb := B.bytes
  have hr := B.returns
  have hts := atoms_spec (ws := Cond.code y_T_put b_T_put 2 (some .int) :: wa) B.pre
  have hw : ∀ w ∈ wa, w.before _ s = true := fun w h => hts w (List.mem_cons_of_mem _ h)
  have hown : s.vm.findClass R_T = some m.cls := findClass_of_methodNamed B.named
  have hlocks := B.notSynchronized
  subst hsz
  have hD := hD0.self (sz := s.heap.size)
  generalize hAe : va_A (wK A cc g0) s.heap.size = AA at hD ⊢
  have hA : ∀ q : Nat, s.heap.size ≤ q → AA q := fun q h => by rw [← hAe]; exact Or.inr h
  have hS : va_S AA s.heap s.heap [] := va_S.rf
  have hl := lv_entry ([.ref (A 8), .int a0]) (n := 2) (Nat.le_of_ble_eq_true rfl)
  rw [lg_entry_eq]
  generalize (lg_sl ([.ref (A 8), .int a0]) ++ List.replicate (2 - (lg_sl ([.ref (A 8), .int a0])).length) Slot.unset).toArray = ls at hl ⊢
  have hl : lv_has ls 2 [(0, .ref (A 8)), (1, .int a0)] := hl
  unfold f_T_put at hF
  refine lv_aload_n hx hb d_T_put_0 rfl (lv_at hl 0 rfl) ?_
  refine va_get (D := D) (ci := 1) (v := .ref (A 9)) (C := R_T) (T := T_T) (N := 2) hx hb hts in_T hown hK hP 8 rfl rfl 0 (by decide) (hw _ ww_55) (fun _ h9 => h9) rfl d_T_put_1 ?_
  refine lv_aload_n hx hb d_T_put_4 rfl (lv_at hl 0 rfl) ?_
  refine va_get (D := D) (ci := 1) (v := .int g0.2.2.2.2.2.2.2.2.2) (C := R_T) (T := T_T) (N := 2) hx hb hts in_T hown hK hP 8 rfl rfl 1 (by decide) (hw _ ww_56) (fun _ h9 => h9) rfl d_T_put_5 ?_
  refine lv_iload_n hx hb d_T_put_8 rfl (lv_at hl 1 rfl) ?_
  by_cases h1 : g0.2.2.2.2.2.2.2.2.2 < 0 ∨ 20 ≤ Int32.toNatClampNeg g0.2.2.2.2.2.2.2.2.2
  · have h0 := (if_pos h1).symm.trans hF; cases h0
  have hF := (if_neg h1).symm.trans hF
  refine va_iast hx hb hK hP hD hS 9 6 rfl rfl h1 d_T_put_9 (fun H locs hP hD hS => ?_)
  have hP : va_P D vwC (wK A cc (g0.1, g0.2.1, g0.2.2.1, g0.2.2.2.1, g0.2.2.2.2.1, g0.2.2.2.2.2.1, g0.2.2.2.2.2.2.1, g0.2.2.2.2.2.2.2.1, (upd g0.2.2.2.2.2.2.2.2.1 (Int32.toNatClampNeg g0.2.2.2.2.2.2.2.2.2) a0), g0.2.2.2.2.2.2.2.2.2)) H := hP
  have hD : va_D AA (wK A cc (g0.1, g0.2.1, g0.2.2.1, g0.2.2.2.1, g0.2.2.2.2.1, g0.2.2.2.2.2.1, g0.2.2.2.2.2.2.1, g0.2.2.2.2.2.2.2.1, (upd g0.2.2.2.2.2.2.2.2.1 (Int32.toNatClampNeg g0.2.2.2.2.2.2.2.2.2) a0), g0.2.2.2.2.2.2.2.2.2)) := hD
  refine lv_aload_n hx hb d_T_put_10 rfl (lv_at hl 0 rfl) ?_
  refine lv_dup hx hb d_T_put_11 rfl ?_
  refine va_get (D := D) (ci := 1) (v := .int g0.2.2.2.2.2.2.2.2.2) (C := R_T) (T := T_T) (N := 2) hx hb hts in_T hown hK hP 8 rfl rfl 1 (by decide) (hw _ ww_56) (fun _ h9 => h9) rfl d_T_put_12 ?_
  refine lv_iconst (v := 1) hx hb d_T_put_15 (by decide) ?_
  refine lv_iadd hx hb d_T_put_16 ?_
  refine va_put (D := D) (ci := 1) (v := .int (g0.2.2.2.2.2.2.2.2.2 + 1)) (ty := .int) (C := R_T) (T := T_T) (N := 2) hx hb hts in_T ft_T ft_T_ok fn_T hown hK hP hD hS 8 rfl rfl 1 (by decide) (hw _ ww_56) (fun _ h9 => h9) rfl (by decide +kernel) rfl rfl (Nat.le_of_ble_eq_true rfl) d_T_put_17 (fun H locs hP hD hS => ?_)
  have hP : va_P D vwC (wK A cc (g0.1, g0.2.1, g0.2.2.1, g0.2.2.2.1, g0.2.2.2.2.1, g0.2.2.2.2.2.1, g0.2.2.2.2.2.2.1, g0.2.2.2.2.2.2.2.1, (upd g0.2.2.2.2.2.2.2.2.1 (Int32.toNatClampNeg g0.2.2.2.2.2.2.2.2.2) a0), (g0.2.2.2.2.2.2.2.2.2 + 1))) H := hP
  have hD : va_D AA (wK A cc (g0.1, g0.2.1, g0.2.2.1, g0.2.2.2.1, g0.2.2.2.2.1, g0.2.2.2.2.2.1, g0.2.2.2.2.2.2.1, g0.2.2.2.2.2.2.2.1, (upd g0.2.2.2.2.2.2.2.2.1 (Int32.toNatClampNeg g0.2.2.2.2.2.2.2.2.2) a0), (g0.2.2.2.2.2.2.2.2.2 + 1))) := hD
  refine lv_aload_n hx hb d_T_put_20 rfl (lv_at hl 0 rfl) ?_
  refine va_get (D := D) (ci := 1) (v := .int (g0.2.2.2.2.2.2.2.2.2 + 1)) (C := R_T) (T := T_T) (N := 2) hx hb hts in_T hown hK hP 8 rfl rfl 1 (by decide) (hw _ ww_56) (fun _ h9 => h9) rfl d_T_put_21 ?_
  obtain rfl := Option.some.inj hF
  exact W.iret hx hb hr (fun t ht hW => ⟨⟨_, _, rfl, rfl, bw_end hP hK hD ht hW⟩, hS.F ht⟩) hS.2.2 d_T_put_24
def f_T_clear (g0 : sK)  : Option sK := some ((g0.1, g0.2.1, g0.2.2.1, g0.2.2.2.1, g0.2.2.2.2.1, g0.2.2.2.2.2.1, g0.2.2.2.2.2.2.1, g0.2.2.2.2.2.2.2.1, g0.2.2.2.2.2.2.2.2.1, 0))
abbrev rm_T_clear : Room := { frames := 0, cells := 0, slots := 0, locals := 0 }
set_option maxHeartbeats 4000000 in
set_option maxRecDepth 100000 in
theorem k_T_clear (l : Launch) (D : va_G) (A : Nat → Nat) (cc : Nat → ClassId) (g0 : sK)  (sz : Nat) (res : sK) (hF : f_T_clear g0  = some res) : Met l y_T_clear (Cond.code y_T_clear b_T_clear 1 none :: wa) rm_T_clear (pw D (wK A cc g0) (kK cc) [.ref (A 8)] sz) (va_Qv (fun u => u = res) (bw D (wK A cc) (kK cc) (va_A (wK A cc g0) sz)) (va_A (wK A cc g0) sz)) 0 0 (va_A (wK A cc g0) sz) := by
  refine Met.ofW (cc := b_T_clear) (maxL := 1) (ret := none) (by decide) rfl ?_
  intro p e s m args below meth c s₁ B hml hv
  obtain ⟨rfl, hsz, hP, hK, hD0, hN⟩ := hv
  have hx := B.exec
  have hb := B.bytes
  have hr := B.returns
  have hts := atoms_spec (ws := Cond.code y_T_clear b_T_clear 1 none :: wa) B.pre
  have hw : ∀ w ∈ wa, w.before _ s = true := fun w h => hts w (List.mem_cons_of_mem _ h)
  have hown : s.vm.findClass R_T = some m.cls := findClass_of_methodNamed B.named
  have hlocks := B.notSynchronized
  subst hsz
  have hD := hD0.self (sz := s.heap.size)
  generalize hAe : va_A (wK A cc g0) s.heap.size = AA at hD ⊢
  have hA : ∀ q : Nat, s.heap.size ≤ q → AA q := fun q h => by rw [← hAe]; exact Or.inr h
  have hS : va_S AA s.heap s.heap [] := va_S.rf
  have hl := lv_entry ([.ref (A 8)]) (n := 1) (Nat.le_of_ble_eq_true rfl)
  rw [lg_entry_eq]
  generalize (lg_sl ([.ref (A 8)]) ++ List.replicate (1 - (lg_sl ([.ref (A 8)])).length) Slot.unset).toArray = ls at hl ⊢
  have hl : lv_has ls 1 [(0, .ref (A 8))] := hl
  unfold f_T_clear at hF
  refine lv_aload_n hx hb d_T_clear_0 rfl (lv_at hl 0 rfl) ?_
  refine lv_iconst (v := 0) hx hb d_T_clear_1 (by decide) ?_
  refine va_put (D := D) (ci := 1) (v := .int 0) (ty := .int) (C := R_T) (T := T_T) (N := 2) hx hb hts in_T ft_T ft_T_ok fn_T hown hK hP hD hS 8 rfl rfl 1 (by decide) (hw _ ww_56) (fun _ h9 => h9) rfl (by decide +kernel) rfl rfl (Nat.le_of_ble_eq_true rfl) d_T_clear_2 (fun H locs hP hD hS => ?_)
  have hP : va_P D vwC (wK A cc (g0.1, g0.2.1, g0.2.2.1, g0.2.2.2.1, g0.2.2.2.2.1, g0.2.2.2.2.2.1, g0.2.2.2.2.2.2.1, g0.2.2.2.2.2.2.2.1, g0.2.2.2.2.2.2.2.2.1, 0)) H := hP
  have hD : va_D AA (wK A cc (g0.1, g0.2.1, g0.2.2.1, g0.2.2.2.1, g0.2.2.2.2.1, g0.2.2.2.2.2.1, g0.2.2.2.2.2.2.1, g0.2.2.2.2.2.2.2.1, g0.2.2.2.2.2.2.2.2.1, 0)) := hD
  obtain rfl := Option.some.inj hF
  exact W.vret hx hb hr (fun t ht hW => ⟨⟨_, rfl, rfl, bw_end hP hK hD ht hW⟩, hS.F ht⟩) hS.2.2 d_T_clear_5
def f_T_sizeAt (g0 : sK) (a0 : Int32) : Option (Int32 × sK) := Option.bind (if g0.2.2.2.2.2.2.2.2.2 ≤ (a0 + 1) then (some (2) : Option (Int32)) else (if (a0 + 1) < 0 ∨ 20 ≤ Int32.toNatClampNeg (a0 + 1) then none else (some (2 + (g0.2.2.2.2.2.2.2.2.1 (Int32.toNatClampNeg (a0 + 1))))))) (fun j1 => some (j1, g0))
abbrev rm_T_sizeAt : Room := { frames := 0, cells := 0, slots := 0, locals := 0 }
set_option maxHeartbeats 4000000 in
set_option maxRecDepth 100000 in
theorem k_T_sizeAt (l : Launch) (D : va_G) (A : Nat → Nat) (cc : Nat → ClassId) (g0 : sK) (a0 : Int32) (sz : Nat) (res : (Int32 × sK)) (hF : f_T_sizeAt g0 a0 = some res) : Met l y_T_sizeAt (Cond.code y_T_sizeAt b_T_sizeAt 2 (some .int) :: wa) rm_T_sizeAt (pw D (wK A cc g0) (kK cc) [.ref (A 8), .int a0] sz) (va_Qi (fun r u => (r, u) = res) (bw D (wK A cc) (kK cc) (va_A (wK A cc g0) sz)) (va_A (wK A cc g0) sz)) 0 0 (va_A (wK A cc g0) sz) := by
  refine Met.ofW (cc := b_T_sizeAt) (maxL := 2) (ret := (some .int)) (by decide) rfl ?_
  intro p e s m args below meth c s₁ B hml hv
  obtain ⟨rfl, hsz, hP, hK, hD0, hN⟩ := hv
  have hx := B.exec
  have hb := B.bytes
  have hr := B.returns
  have hts := atoms_spec (ws := Cond.code y_T_sizeAt b_T_sizeAt 2 (some .int) :: wa) B.pre
  have hw : ∀ w ∈ wa, w.before _ s = true := fun w h => hts w (List.mem_cons_of_mem _ h)
  have hown : s.vm.findClass R_T = some m.cls := findClass_of_methodNamed B.named
  have hlocks := B.notSynchronized
  subst hsz
  have hD := hD0.self (sz := s.heap.size)
  generalize hAe : va_A (wK A cc g0) s.heap.size = AA at hD ⊢
  have hA : ∀ q : Nat, s.heap.size ≤ q → AA q := fun q h => by rw [← hAe]; exact Or.inr h
  have hS : va_S AA s.heap s.heap [] := va_S.rf
  have hl := lv_entry ([.ref (A 8), .int a0]) (n := 2) (Nat.le_of_ble_eq_true rfl)
  rw [lg_entry_eq]
  generalize (lg_sl ([.ref (A 8), .int a0]) ++ List.replicate (2 - (lg_sl ([.ref (A 8), .int a0])).length) Slot.unset).toArray = ls at hl ⊢
  have hl : lv_has ls 2 [(0, .ref (A 8)), (1, .int a0)] := hl
  unfold f_T_sizeAt at hF
  refine lv_iload_n hx hb d_T_sizeAt_0 rfl (lv_at hl 1 rfl) ?_
  refine lv_iconst (v := 1) hx hb d_T_sizeAt_1 (by decide) ?_
  refine lv_iadd hx hb d_T_sizeAt_2 ?_
  refine lv_aload_n hx hb d_T_sizeAt_3 rfl (lv_at hl 0 rfl) ?_
  refine va_get (D := D) (ci := 1) (v := .int g0.2.2.2.2.2.2.2.2.2) (C := R_T) (T := T_T) (N := 2) hx hb hts in_T hown hK hP 8 rfl rfl 1 (by decide) (hw _ ww_56) (fun _ h9 => h9) rfl d_T_sizeAt_4 ?_
  obtain ⟨j1, q3, hF⟩ := Option.bind_eq_some_iff.mp hF
  have k2 : ∀ (H : Heap) (locs : List Loc) (ls : Array Slot), va_P D vwC (wK A cc g0) H → va_D AA (wK A cc g0) → va_S AA s.heap H locs → lv_has ls 2 [] → W p l e rm_T_sizeAt s m ([Value.ref (A 8), Value.int a0] : List Value).toArray below meth c H locs 0 0 (MQ below (va_Qi (fun r u => (r, u) = res) (bw D (wK A cc) (kK cc) AA) AA) ([Value.ref (A 8), Value.int a0] : List Value).toArray s 0 0 AA) (F0 m 24 ls [.int j1]) := by
    intro H locs ls hP hD hS hl
    obtain rfl := Option.some.inj hF
    exact W.iret hx hb hr (fun t ht hW => ⟨⟨_, _, rfl, rfl, bw_end hP hK hD ht hW⟩, hS.F ht⟩) hS.2.2 d_T_sizeAt_24
  clear hF
  have hF := q3
  refine lv_icmp_ge hx hb d_T_sizeAt_7 (tgt := 23) (by decide) (fun h9 => ?_) (fun h9 => ?_)
  · have hF := (if_pos h9).symm.trans hF
    refine lv_iconst (v := 2) hx hb d_T_sizeAt_23 (by decide) ?_
    obtain rfl := Option.some.inj hF
    exact k2 _ _ ls hP hD hS (lv_sub hl [] rfl)
  · have hF := (if_neg h9).symm.trans hF
    refine lv_iconst (v := 2) hx hb d_T_sizeAt_10 (by decide) ?_
    refine lv_aload_n hx hb d_T_sizeAt_11 rfl (lv_at hl 0 rfl) ?_
    refine va_get (D := D) (ci := 1) (v := .ref (A 9)) (C := R_T) (T := T_T) (N := 2) hx hb hts in_T hown hK hP 8 rfl rfl 0 (by decide) (hw _ ww_55) (fun _ h9 => h9) rfl d_T_sizeAt_12 ?_
    refine lv_iload_n hx hb d_T_sizeAt_15 rfl (lv_at hl 1 rfl) ?_
    refine lv_iconst (v := 1) hx hb d_T_sizeAt_16 (by decide) ?_
    refine lv_iadd hx hb d_T_sizeAt_17 ?_
    by_cases h5 : (a0 + 1) < 0 ∨ 20 ≤ Int32.toNatClampNeg (a0 + 1)
    · have h0 := (if_pos h5).symm.trans hF; cases h0
    have hF := (if_neg h5).symm.trans hF
    refine va_iald hx hb hK hP 9 6 rfl rfl h5 d_T_sizeAt_18 ?_
    refine lv_iadd hx hb d_T_sizeAt_19 ?_
    refine lv_goto hx hb d_T_sizeAt_20 (tgt := 24) (by decide) ?_
    obtain rfl := Option.some.inj hF
    exact k2 _ _ ls hP hD hS (lv_sub hl [] rfl)
def f_T_numberAt_15 (v4 : Int32) : Nat → sK → Int32 → Int32 → Option (sK × Int32 × Int32)
  | 0, _, _, _ => none
  | n + 1, g8, u6, u7 => if v4 ≤ u6 then (some (g8, u6, u7)) else (if g8.2.2.2.2.2.2.2.2.2 ≤ u6 then (some (g8, u6, u7)) else (if u6 < 0 ∨ 20 ≤ Int32.toNatClampNeg u6 then none else (Option.bind (some ((u7 <<< (8 &&& 31)) ||| (g8.2.2.2.2.2.2.2.2.1 (Int32.toNatClampNeg u6)))) (fun v17 => Option.bind (some (u6 + 1)) (fun v18 => f_T_numberAt_15 v4 n g8 v18 v17)))))
def f_T_numberAt (g0 : sK) (a0 : Int32) : Option (Int32 × sK) := Option.bind (f_T_sizeAt g0 a0) (fun t3 => match t3 with | (r2, g1) => (Option.bind (some (a0 + r2)) (fun v4 => Option.bind (some (a0 + 2)) (fun v5 => Option.bind (f_T_numberAt_15 v4 64 g1 v5 0) (fun t20 => match t20 with | (o10, o11, o12) => (some (o12, o10)))))))
abbrev rm_T_numberAt : Room := { frames := 1, cells := 0, slots := 0, locals := 21 }
set_option maxHeartbeats 4000000 in
set_option maxRecDepth 100000 in
theorem k_T_numberAt (l : Launch) (D : va_G) (A : Nat → Nat) (cc : Nat → ClassId) (g0 : sK) (a0 : Int32) (sz : Nat) (res : (Int32 × sK)) (hF : f_T_numberAt g0 a0 = some res) : Met l y_T_numberAt (Cond.code y_T_numberAt b_T_numberAt 5 (some .int) :: wa) rm_T_numberAt (pw D (wK A cc g0) (kK cc) [.ref (A 8), .int a0] sz) (va_Qi (fun r u => (r, u) = res) (bw D (wK A cc) (kK cc) (va_A (wK A cc g0) sz)) (va_A (wK A cc g0) sz)) 0 0 (va_A (wK A cc g0) sz) := by
  refine Met.ofW (cc := b_T_numberAt) (maxL := 5) (ret := (some .int)) (by decide) rfl ?_
  intro p e s m args below meth c s₁ B hml hv
  obtain ⟨rfl, hsz, hP, hK, hD0, hN⟩ := hv
  have hx := B.exec
  have hb := B.bytes
  have hr := B.returns
  have hts := atoms_spec (ws := Cond.code y_T_numberAt b_T_numberAt 5 (some .int) :: wa) B.pre
  have hw : ∀ w ∈ wa, w.before _ s = true := fun w h => hts w (List.mem_cons_of_mem _ h)
  have hown : s.vm.findClass R_T = some m.cls := findClass_of_methodNamed B.named
  have hlocks := B.notSynchronized
  subst hsz
  have hD := hD0.self (sz := s.heap.size)
  generalize hAe : va_A (wK A cc g0) s.heap.size = AA at hD ⊢
  have hA : ∀ q : Nat, s.heap.size ≤ q → AA q := fun q h => by rw [← hAe]; exact Or.inr h
  have hS : va_S AA s.heap s.heap [] := va_S.rf
  have hl := lv_entry ([.ref (A 8), .int a0]) (n := 5) (Nat.le_of_ble_eq_true rfl)
  rw [lg_entry_eq]
  generalize (lg_sl ([.ref (A 8), .int a0]) ++ List.replicate (5 - (lg_sl ([.ref (A 8), .int a0])).length) Slot.unset).toArray = ls at hl ⊢
  have hl : lv_has ls 5 [(0, .ref (A 8)), (1, .int a0)] := hl
  unfold f_T_numberAt at hF
  refine lv_iconst (v := 0) hx hb d_T_numberAt_0 (by decide) ?_
  refine lv_istore_n hx hb d_T_numberAt_1 rfl hl (by decide) (lv' := [(2, .int 0), (0, .ref (A 8)), (1, .int a0)]) rfl (fun ls hl => ?_)
  refine lv_iload_n hx hb d_T_numberAt_2 rfl (lv_at hl 2 rfl) ?_
  refine lv_aload_n hx hb d_T_numberAt_3 rfl (lv_at hl 1 rfl) ?_
  refine lv_iload_n hx hb d_T_numberAt_4 rfl (lv_at hl 2 rfl) ?_
  obtain ⟨⟨r2, g1⟩, e_g1, hF⟩ := Option.bind_eq_some_iff.mp hF
  have hFc := va_free (wc := wK A cc g0) hD hS hA [0, 1, 2, 3, 4, 5, 6, 7, 8, 9] rfl
  refine va_calli (va_runV (As := [.int a0]) (rest := [.int a0]) ⟨hx, hb, hml, hown, hts⟩ (k_T_sizeAt l D A cc g0 a0 _ (r2, g1) e_g1) (cwV 1 hts (ga_V ww_183 ww_185 wp_0 ww_3 ww_186) rfl rfl rfl (by decide +kernel) ⟨by decide, by decide⟩) (pw_pre (q0 := 8) (ci := 1) hP hK hD hN rfl rfl) rfl rfl hl.1 rfl (lv_room (Nat.le_of_ble_eq_true rfl)) d_T_numberAt_5 ⟨Nat.zero_le _, Nat.zero_le _⟩) hS (fun q _ h => hFc q h) hFc (fun r9 u9 t H locs ht hvm hp hB hz1 hk1 hS => ?_)
  obtain ⟨rfl, rfl⟩ := Prod.mk.inj hp.symm
  obtain ⟨hP, hD⟩ := bw_back hB ht hFc
  refine lv_iadd hx hb d_T_numberAt_8 ?_
  obtain ⟨v4, e_v4, hF⟩ := Option.bind_eq_some_iff.mp hF
  refine nm_i (Option.some.inj e_v4) ?_
  refine lv_istore_n hx hb d_T_numberAt_9 rfl hl (by decide) (lv' := [(3, .int v4), (2, .int 0), (0, .ref (A 8)), (1, .int a0)]) rfl (fun ls hl => ?_)
  refine lv_iload_n hx hb d_T_numberAt_10 rfl (lv_at hl 3 rfl) ?_
  refine lv_iconst (v := 2) hx hb d_T_numberAt_11 (by decide) ?_
  refine lv_iadd hx hb d_T_numberAt_12 ?_
  obtain ⟨v5, e_v5, hF⟩ := Option.bind_eq_some_iff.mp hF
  refine nm_i (Option.some.inj e_v5) ?_
  refine lv_istore hx hb d_T_numberAt_13 hl (by decide) (lv' := [(4, .int v5), (3, .int v4), (2, .int 0), (0, .ref (A 8)), (1, .int a0)]) rfl (fun ls hl => ?_)
  obtain ⟨⟨o10, o11, o12⟩, q19, hF⟩ := Option.bind_eq_some_iff.mp hF
  have k13 : ∀ (H : Heap) (locs : List Loc) (ls : Array Slot), va_P D vwC (wK A cc o10) H → va_D AA (wK A cc o10) → va_S AA s.heap H locs → lv_has ls 5 [(4, .int o11), (2, .int o12), (3, .int v4), (0, .ref (A 8))] → W p l e rm_T_numberAt s m ([Value.ref (A 8), Value.int a0] : List Value).toArray below meth c H locs 0 0 (MQ below (va_Qi (fun r u => (r, u) = res) (bw D (wK A cc) (kK cc) AA) AA) ([Value.ref (A 8), Value.int a0] : List Value).toArray s 0 0 AA) (F0 m 49 ls []) := by
    intro H locs ls hP hD hS hl
    refine lv_iload_n hx hb d_T_numberAt_49 rfl (lv_at hl 1 rfl) ?_
    obtain rfl := Option.some.inj hF
    exact W.iret hx hb hr (fun t ht hW => ⟨⟨_, _, rfl, rfl, bw_end hP hK hD ht hW⟩, hS.F ht⟩) hS.2.2 d_T_numberAt_50
  clear hF
  have k9 : ∀ (n : Nat) (g8 : sK) (u6 : Int32) (u7 : Int32) (H : Heap) (locs : List Loc) (ls : Array Slot), va_P D vwC (wK A cc g8) H → va_D AA (wK A cc g8) → va_S AA s.heap H locs → lv_has ls 5 [(4, .int u6), (2, .int u7), (3, .int v4), (0, .ref (A 8))] → f_T_numberAt_15 v4 n g8 u6 u7 = some (o10, o11, o12) → W p l e rm_T_numberAt s m ([Value.ref (A 8), Value.int a0] : List Value).toArray below meth c H locs 0 0 (MQ below (va_Qi (fun r u => (r, u) = res) (bw D (wK A cc) (kK cc) AA) AA) ([Value.ref (A 8), Value.int a0] : List Value).toArray s 0 0 AA) (F0 m 15 ls []) := by
    intro n
    induction n with
    | zero => intro g8 u6 u7 H locs ls hP hD hS hl hF; cases hF
    | succ n ih =>
      intro g8 u6 u7 H locs ls hP hD hS hl hF
      rw [f_T_numberAt_15] at hF
      refine lv_iload hx hb d_T_numberAt_15 (lv_at hl 0 rfl) ?_
      refine lv_iload_n hx hb d_T_numberAt_17 rfl (lv_at hl 2 rfl) ?_
      refine lv_icmp_ge hx hb d_T_numberAt_18 (tgt := 49) (by decide) (fun h9 => ?_) (fun h9 => ?_)
      · have hF := (if_pos h9).symm.trans hF
        cases Option.some.inj hF
        exact k13 _ _ ls hP hD hS (lv_sub hl [0, 1, 2, 3] rfl)
      · have hF := (if_neg h9).symm.trans hF
        refine lv_iload hx hb d_T_numberAt_21 (lv_at hl 0 rfl) ?_
        refine lv_aload_n hx hb d_T_numberAt_23 rfl (lv_at hl 3 rfl) ?_
        refine va_get (D := D) (ci := 1) (v := .int g8.2.2.2.2.2.2.2.2.2) (C := R_T) (T := T_T) (N := 2) hx hb hts in_T hown hK hP 8 rfl rfl 1 (by decide) (hw _ ww_56) (fun _ h9 => h9) rfl d_T_numberAt_24 ?_
        refine lv_icmp_ge hx hb d_T_numberAt_27 (tgt := 49) (by decide) (fun h9 => ?_) (fun h9 => ?_)
        · have hF := (if_pos h9).symm.trans hF
          cases Option.some.inj hF
          exact k13 _ _ ls hP hD hS (lv_sub hl [0, 1, 2, 3] rfl)
        · have hF := (if_neg h9).symm.trans hF
          refine lv_iload_n hx hb d_T_numberAt_30 rfl (lv_at hl 1 rfl) ?_
          refine lv_bipush (v := 8) hx hb d_T_numberAt_31 (by decide) ?_
          refine lv_ishl hx hb d_T_numberAt_33 ?_
          refine lv_aload_n hx hb d_T_numberAt_34 rfl (lv_at hl 3 rfl) ?_
          refine va_get (D := D) (ci := 1) (v := .ref (A 9)) (C := R_T) (T := T_T) (N := 2) hx hb hts in_T hown hK hP 8 rfl rfl 0 (by decide) (hw _ ww_55) (fun _ h9 => h9) rfl d_T_numberAt_35 ?_
          refine lv_iload hx hb d_T_numberAt_38 (lv_at hl 0 rfl) ?_
          by_cases h16 : u6 < 0 ∨ 20 ≤ Int32.toNatClampNeg u6
          · have h0 := (if_pos h16).symm.trans hF; cases h0
          have hF := (if_neg h16).symm.trans hF
          refine va_iald hx hb hK hP 9 6 rfl rfl h16 d_T_numberAt_40 ?_
          refine lv_ior hx hb d_T_numberAt_41 ?_
          obtain ⟨v17, e_v17, hF⟩ := Option.bind_eq_some_iff.mp hF
          refine nm_i (Option.some.inj e_v17) ?_
          refine lv_istore_n hx hb d_T_numberAt_42 rfl hl (by decide) (lv' := [(2, .int v17), (4, .int u6), (3, .int v4), (0, .ref (A 8))]) rfl (fun ls hl => ?_)
          obtain ⟨v18, e_v18, hF⟩ := Option.bind_eq_some_iff.mp hF
          refine lv_iinc hx hb d_T_numberAt_43 hl (k := 1) (v := v18) rfl ((show _ = u6 + 1 from rfl).trans (Option.some.inj e_v18)) (by decide) (lv' := [(4, .int v18), (2, .int v17), (3, .int v4), (0, .ref (A 8))]) rfl (fun ls hl => ?_)
          refine lv_goto hx hb d_T_numberAt_46 (tgt := 15) (by decide) ?_
          exact ih g8 v18 v17 _ _ ls hP hD hS (lv_sub hl [0, 1, 2, 3] rfl) hF
  exact k9 64 g1 v5 0 _ _ ls hP hD hS (lv_sub hl [0, 2, 1, 3] rfl) q19
def f_T_areFormOf_16 (a0 : Int32) (a1 : Int32) : Nat → sK → Int32 → Option ((Int32 × sK) ⊕ (sK × Int32))
  | 0, _, _ => none
  | n + 1, g3, u2 => if g3.2.2.2.2.2.2.2.2.2 ≤ u2 then (some (.inr (g3, u2))) else (if u2 < 0 ∨ 20 ≤ Int32.toNatClampNeg u2 then none else (Option.bind (f_O_byteAt a0 a1 u2) (fun r11 => if (g3.2.2.2.2.2.2.2.2.1 (Int32.toNatClampNeg u2)) = r11 then (Option.bind (some (u2 + 1)) (fun v12 => f_T_areFormOf_16 a0 a1 n g3 v12)) else (some (.inl (0, g3))))))
def f_T_areFormOf (g0 : sK) (a0 : Int32) (a1 : Int32) : Option (Int32 × sK) := Option.bind (f_O_length a0 a1) (fun r1 => if g0.2.2.2.2.2.2.2.2.2 = r1 then (Option.bind (f_T_areFormOf_16 a0 a1 64 g0 0) (fun t14 => match t14 with | .inl r9 => some r9 | .inr (o5, o6) => (some (1, o5)))) else (some (0, g0)))
abbrev rm_T_areFormOf : Room := { frames := 3, cells := 0, slots := 0, locals := 65 }
set_option maxHeartbeats 4000000 in
set_option maxRecDepth 100000 in
theorem k_T_areFormOf (l : Launch) (D : va_G) (A : Nat → Nat) (cc : Nat → ClassId) (g0 : sK) (a0 : Int32) (a1 : Int32) (sz : Nat) (res : (Int32 × sK)) (hF : f_T_areFormOf g0 a0 a1 = some res) : Met l y_T_areFormOf (Cond.code y_T_areFormOf b_T_areFormOf 4 (some .boolean) :: wa) rm_T_areFormOf (pw D (wK A cc g0) (kK cc) [.ref (A 8), .int a0, .int a1] sz) (va_Qi (fun r u => (r, u) = res) (bw D (wK A cc) (kK cc) (va_A (wK A cc g0) sz)) (va_A (wK A cc g0) sz)) 0 0 (va_A (wK A cc g0) sz) := by
  refine Met.ofW (cc := b_T_areFormOf) (maxL := 4) (ret := (some .boolean)) (by decide) rfl ?_
  intro p e s m args below meth c s₁ B hml hv
  obtain ⟨rfl, hsz, hP, hK, hD0, hN⟩ := hv
  have hx := B.exec
  have hb := B.bytes
  have hr := B.returns
  have hts := atoms_spec (ws := Cond.code y_T_areFormOf b_T_areFormOf 4 (some .boolean) :: wa) B.pre
  have hw : ∀ w ∈ wa, w.before _ s = true := fun w h => hts w (List.mem_cons_of_mem _ h)
  have hown : s.vm.findClass R_T = some m.cls := findClass_of_methodNamed B.named
  have hlocks := B.notSynchronized
  subst hsz
  have hD := hD0.self (sz := s.heap.size)
  generalize hAe : va_A (wK A cc g0) s.heap.size = AA at hD ⊢
  have hA : ∀ q : Nat, s.heap.size ≤ q → AA q := fun q h => by rw [← hAe]; exact Or.inr h
  have hS : va_S AA s.heap s.heap [] := va_S.rf
  have hl := lv_entry ([.ref (A 8), .int a0, .int a1]) (n := 4) (Nat.le_of_ble_eq_true rfl)
  rw [lg_entry_eq]
  generalize (lg_sl ([.ref (A 8), .int a0, .int a1]) ++ List.replicate (4 - (lg_sl ([.ref (A 8), .int a0, .int a1])).length) Slot.unset).toArray = ls at hl ⊢
  have hl : lv_has ls 4 [(0, .ref (A 8)), (1, .int a0), (2, .int a1)] := hl
  unfold f_T_areFormOf at hF
  refine lv_aload_n hx hb d_T_areFormOf_0 rfl (lv_at hl 0 rfl) ?_
  refine va_get (D := D) (ci := 1) (v := .int g0.2.2.2.2.2.2.2.2.2) (C := R_T) (T := T_T) (N := 2) hx hb hts in_T hown hK hP 8 rfl rfl 1 (by decide) (hw _ ww_56) (fun _ h9 => h9) rfl d_T_areFormOf_1 ?_
  refine lv_iload_n hx hb d_T_areFormOf_4 rfl (lv_at hl 1 rfl) ?_
  refine lv_iload_n hx hb d_T_areFormOf_5 rfl (lv_at hl 2 rfl) ?_
  obtain ⟨r1, e_r1, hF⟩ := Option.bind_eq_some_iff.mp hF
  refine vp_callSi (va_runS (As := [.int a0, .int a1]) (rest := [.int g0.2.2.2.2.2.2.2.2.2]) ⟨hx, hb, hml, hown, hts⟩ (k_O_length l a0 a1 r1 e_r1) (va_cwS 2 hts (ga_S ww_195 ww_196 ww_16 ww_197) rfl rfl rfl (by decide +kernel) ⟨by decide, by decide⟩) (pcs_pre hN) rfl rfl hl.1 rfl (lv_room (Nat.le_of_ble_eq_true rfl)) d_T_areFormOf_6 ⟨Nat.zero_le _, Nat.zero_le _⟩).run (fun z9 hz9 => ?_)
  obtain rfl : r1 = z9 := hz9.symm
  refine lv_icmp_eq hx hb d_T_areFormOf_9 (tgt := 14) (by decide) (fun h9 => ?_) (fun h9 => ?_)
  · have hF := (if_pos h9).symm.trans hF
    refine lv_iconst (v := 0) hx hb d_T_areFormOf_14 (by decide) ?_
    refine lv_istore_n hx hb d_T_areFormOf_15 rfl hl (by decide) (lv' := [(3, .int 0), (0, .ref (A 8)), (1, .int a0), (2, .int a1)]) rfl (fun ls hl => ?_)
    obtain ⟨x9, q13, hF⟩ := Option.bind_eq_some_iff.mp hF
    have k8 : ∀ r9, x9 = .inl r9 → res = r9 := by
      intro r9 h9
      subst h9
      exact (Option.some.inj hF).symm
    have k7 : ∀ (o5 : sK) (o6 : Int32), x9 = .inr (o5, o6) → ∀ (H : Heap) (locs : List Loc) (ls : Array Slot), va_P D vwC (wK A cc o5) H → va_D AA (wK A cc o5) → va_S AA s.heap H locs → lv_has ls 4 [(3, .int o6), (0, .ref (A 8)), (1, .int a0), (2, .int a1)] → W p l e rm_T_areFormOf s m ([Value.ref (A 8), Value.int a0, Value.int a1] : List Value).toArray below meth c H locs 0 0 (MQ below (va_Qi (fun r u => (r, u) = res) (bw D (wK A cc) (kK cc) AA) AA) ([Value.ref (A 8), Value.int a0, Value.int a1] : List Value).toArray s 0 0 AA) (F0 m 47 ls []) := by
      intro o5 o6 h9 H locs ls hP hD hS hl
      subst h9
      refine lv_iconst (v := 1) hx hb d_T_areFormOf_47 (by decide) ?_
      obtain rfl := Option.some.inj hF
      exact W.zret hx hb hr (by decide) (fun t ht hW => ⟨⟨_, _, rfl, rfl, bw_end hP hK hD ht hW⟩, hS.F ht⟩) hS.2.2 d_T_areFormOf_48
    clear hF
    have k4 : ∀ (n : Nat) (g3 : sK) (u2 : Int32) (H : Heap) (locs : List Loc) (ls : Array Slot), va_P D vwC (wK A cc g3) H → va_D AA (wK A cc g3) → va_S AA s.heap H locs → lv_has ls 4 [(3, .int u2), (0, .ref (A 8)), (1, .int a0), (2, .int a1)] → f_T_areFormOf_16 a0 a1 n g3 u2 = some x9 → W p l e rm_T_areFormOf s m ([Value.ref (A 8), Value.int a0, Value.int a1] : List Value).toArray below meth c H locs 0 0 (MQ below (va_Qi (fun r u => (r, u) = res) (bw D (wK A cc) (kK cc) AA) AA) ([Value.ref (A 8), Value.int a0, Value.int a1] : List Value).toArray s 0 0 AA) (F0 m 16 ls []) := by
      intro n
      induction n with
      | zero => intro g3 u2 H locs ls hP hD hS hl hF; cases hF
      | succ n ih =>
        intro g3 u2 H locs ls hP hD hS hl hF
        rw [f_T_areFormOf_16] at hF
        refine lv_iload_n hx hb d_T_areFormOf_16 rfl (lv_at hl 0 rfl) ?_
        refine lv_aload_n hx hb d_T_areFormOf_17 rfl (lv_at hl 1 rfl) ?_
        refine va_get (D := D) (ci := 1) (v := .int g3.2.2.2.2.2.2.2.2.2) (C := R_T) (T := T_T) (N := 2) hx hb hts in_T hown hK hP 8 rfl rfl 1 (by decide) (hw _ ww_56) (fun _ h9 => h9) rfl d_T_areFormOf_18 ?_
        refine lv_icmp_ge hx hb d_T_areFormOf_21 (tgt := 47) (by decide) (fun h9 => ?_) (fun h9 => ?_)
        · have hF := (if_pos h9).symm.trans hF
          exact k7 g3 u2 (Option.some.inj hF).symm _ _ ls hP hD hS (lv_sub hl [0, 1, 2, 3] rfl)
        · have hF := (if_neg h9).symm.trans hF
          refine lv_aload_n hx hb d_T_areFormOf_24 rfl (lv_at hl 1 rfl) ?_
          refine va_get (D := D) (ci := 1) (v := .ref (A 9)) (C := R_T) (T := T_T) (N := 2) hx hb hts in_T hown hK hP 8 rfl rfl 0 (by decide) (hw _ ww_55) (fun _ h9 => h9) rfl d_T_areFormOf_25 ?_
          refine lv_iload_n hx hb d_T_areFormOf_28 rfl (lv_at hl 0 rfl) ?_
          by_cases h10 : u2 < 0 ∨ 20 ≤ Int32.toNatClampNeg u2
          · have h0 := (if_pos h10).symm.trans hF; cases h0
          have hF := (if_neg h10).symm.trans hF
          refine va_iald hx hb hK hP 9 6 rfl rfl h10 d_T_areFormOf_29 ?_
          refine lv_iload_n hx hb d_T_areFormOf_30 rfl (lv_at hl 2 rfl) ?_
          refine lv_iload_n hx hb d_T_areFormOf_31 rfl (lv_at hl 3 rfl) ?_
          refine lv_iload_n hx hb d_T_areFormOf_32 rfl (lv_at hl 0 rfl) ?_
          obtain ⟨r11, e_r11, hF⟩ := Option.bind_eq_some_iff.mp hF
          refine vp_callSi (va_runS (As := [.int a0, .int a1, .int u2]) (rest := [.int (g3.2.2.2.2.2.2.2.2.1 (Int32.toNatClampNeg u2))]) ⟨hx, hb, hml, hown, hts⟩ (k_O_byteAt l a0 a1 u2 r11 e_r11) (va_cwS 3 hts (ga_S ww_203 ww_204 ww_16 ww_205) rfl rfl rfl (by decide +kernel) ⟨by decide, by decide⟩) (pcs_pre hN) rfl rfl hl.1 rfl (lv_room (Nat.le_of_ble_eq_true rfl)) d_T_areFormOf_33 ⟨Nat.zero_le _, Nat.zero_le _⟩).run (fun z9 hz9 => ?_)
          obtain rfl : r11 = z9 := hz9.symm
          refine lv_icmp_eq hx hb d_T_areFormOf_36 (tgt := 41) (by decide) (fun h9 => ?_) (fun h9 => ?_)
          · have hF := (if_pos h9).symm.trans hF
            obtain ⟨v12, e_v12, hF⟩ := Option.bind_eq_some_iff.mp hF
            refine lv_iinc hx hb d_T_areFormOf_41 hl (k := 0) (v := v12) rfl ((show _ = u2 + 1 from rfl).trans (Option.some.inj e_v12)) (by decide) (lv' := [(3, .int v12), (0, .ref (A 8)), (1, .int a0), (2, .int a1)]) rfl (fun ls hl => ?_)
            refine lv_goto hx hb d_T_areFormOf_44 (tgt := 16) (by decide) ?_
            exact ih g3 v12 _ _ ls hP hD hS (lv_sub hl [0, 1, 2, 3] rfl) hF
          · have hF := (if_neg h9).symm.trans hF
            refine lv_iconst (v := 0) hx hb d_T_areFormOf_39 (by decide) ?_
            obtain rfl := k8 _ (Option.some.inj hF).symm
            exact W.zret hx hb hr (by decide) (fun t ht hW => ⟨⟨_, _, rfl, rfl, bw_end hP hK hD ht hW⟩, hS.F ht⟩) hS.2.2 d_T_areFormOf_40
    exact k4 64 g0 0 _ _ ls hP hD hS (lv_sub hl [0, 1, 2, 3] rfl) q13
  · have hF := (if_neg h9).symm.trans hF
    refine lv_iconst (v := 0) hx hb d_T_areFormOf_12 (by decide) ?_
    obtain rfl := Option.some.inj hF
    exact W.zret hx hb hr (by decide) (fun t ht hW => ⟨⟨_, _, rfl, rfl, bw_end hP hK hD ht hW⟩, hS.F ht⟩) hS.2.2 d_T_areFormOf_13
def f_T_numbers (g0 : sK)  : Option (Int64 × sK) := Option.bind (f_T_sizeAt g0 2) (fun t3 => match t3 with | (r2, g1) => (Option.bind (some (2 + r2)) (fun v4 => Option.bind (f_T_numberAt g1 2) (fun t7 => match t7 with | (r6, g5) => (Option.bind (f_T_numberAt g5 v4) (fun t10 => match t10 with | (r9, g8) => (Option.bind (if r6 < 0 then (some ((-1), g8) : Option (Int64 × sK)) else (if r9 < 0 then (some ((-1), g8)) else (Option.bind (f_T_areFormOf g8 r6 r9) (fun t18 => match t18 with | (r17, g16) => (if r17 = 0 then (some ((-1), g16)) else (some (((Int32.toInt64 r6) * 4294967296) + (Int32.toInt64 r9), g16))))))) (fun t15 => match t15 with | (j11, j12) => (some (j11, j12))))))))))
abbrev rm_T_numbers : Room := { frames := 4, cells := 0, slots := 0, locals := 88 }
set_option maxHeartbeats 4000000 in
set_option maxRecDepth 100000 in
theorem k_T_numbers (l : Launch) (D : va_G) (A : Nat → Nat) (cc : Nat → ClassId) (g0 : sK)  (sz : Nat) (res : (Int64 × sK)) (hF : f_T_numbers g0  = some res) : Met l y_T_numbers (Cond.code y_T_numbers b_T_numbers 4 (some .long) :: wa) rm_T_numbers (pw D (wK A cc g0) (kK cc) [.ref (A 8)] sz) (va_Ql (fun r u => (r, u) = res) (bw D (wK A cc) (kK cc) (va_A (wK A cc g0) sz)) (va_A (wK A cc g0) sz)) 0 0 (va_A (wK A cc g0) sz) := by
  refine Met.ofW (cc := b_T_numbers) (maxL := 4) (ret := (some .long)) (by decide) rfl ?_
  intro p e s m args below meth c s₁ B hml hv
  obtain ⟨rfl, hsz, hP, hK, hD0, hN⟩ := hv
  have hx := B.exec
  have hb := B.bytes
  have hr := B.returns
  have hts := atoms_spec (ws := Cond.code y_T_numbers b_T_numbers 4 (some .long) :: wa) B.pre
  have hw : ∀ w ∈ wa, w.before _ s = true := fun w h => hts w (List.mem_cons_of_mem _ h)
  have hown : s.vm.findClass R_T = some m.cls := findClass_of_methodNamed B.named
  have hlocks := B.notSynchronized
  subst hsz
  have hD := hD0.self (sz := s.heap.size)
  generalize hAe : va_A (wK A cc g0) s.heap.size = AA at hD ⊢
  have hA : ∀ q : Nat, s.heap.size ≤ q → AA q := fun q h => by rw [← hAe]; exact Or.inr h
  have hS : va_S AA s.heap s.heap [] := va_S.rf
  have hl := lv_entry ([.ref (A 8)]) (n := 4) (Nat.le_of_ble_eq_true rfl)
  rw [lg_entry_eq]
  generalize (lg_sl ([.ref (A 8)]) ++ List.replicate (4 - (lg_sl ([.ref (A 8)])).length) Slot.unset).toArray = ls at hl ⊢
  have hl : lv_has ls 4 [(0, .ref (A 8))] := hl
  unfold f_T_numbers at hF
  refine lv_iconst (v := 2) hx hb d_T_numbers_0 (by decide) ?_
  refine lv_aload_n hx hb d_T_numbers_1 rfl (lv_at hl 0 rfl) ?_
  refine lv_iconst (v := 2) hx hb d_T_numbers_2 (by decide) ?_
  obtain ⟨⟨r2, g1⟩, e_g1, hF⟩ := Option.bind_eq_some_iff.mp hF
  have hFc := va_free (wc := wK A cc g0) hD hS hA [0, 1, 2, 3, 4, 5, 6, 7, 8, 9] rfl
  refine va_calli (va_runV (As := [.int 2]) (rest := [.int 2]) ⟨hx, hb, hml, hown, hts⟩ (k_T_sizeAt l D A cc g0 2 _ (r2, g1) e_g1) (cwV 1 hts (ga_V ww_183 ww_185 wp_0 ww_3 ww_186) rfl rfl rfl (by decide +kernel) ⟨by decide, by decide⟩) (pw_pre (q0 := 8) (ci := 1) hP hK hD hN rfl rfl) rfl rfl hl.1 rfl (lv_room (Nat.le_of_ble_eq_true rfl)) d_T_numbers_3 ⟨Nat.zero_le _, Nat.zero_le _⟩) hS (fun q _ h => hFc q h) hFc (fun r9 u9 t H locs ht hvm hp hB hz1 hk1 hS => ?_)
  obtain ⟨rfl, rfl⟩ := Prod.mk.inj hp.symm
  obtain ⟨hP, hD⟩ := bw_back hB ht hFc
  refine lv_iadd hx hb d_T_numbers_6 ?_
  obtain ⟨v4, e_v4, hF⟩ := Option.bind_eq_some_iff.mp hF
  refine nm_i (Option.some.inj e_v4) ?_
  refine lv_istore_n hx hb d_T_numbers_7 rfl hl (by decide) (lv' := [(1, .int v4), (0, .ref (A 8))]) rfl (fun ls hl => ?_)
  refine lv_aload_n hx hb d_T_numbers_8 rfl (lv_at hl 1 rfl) ?_
  refine lv_iconst (v := 2) hx hb d_T_numbers_9 (by decide) ?_
  obtain ⟨⟨r6, g5⟩, e_g5, hF⟩ := Option.bind_eq_some_iff.mp hF
  have hFc := va_free (wc := wK A cc g1) hD hS hA [0, 1, 2, 3, 4, 5, 6, 7, 8, 9] rfl
  refine va_calli (va_runV (As := [.int 2]) (rest := []) ⟨hx, hb, hml, hown, hts⟩ (k_T_numberAt l D A cc g1 2 _ (r6, g5) e_g5) (cwV 1 hts (ga_V ww_187 ww_189 wp_1 ww_3 ww_190) rfl rfl rfl (by decide +kernel) ⟨by decide, by decide⟩) (pw_pre (q0 := 8) (ci := 1) hP hK hD hN rfl rfl) rfl rfl hl.1 rfl (lv_room (Nat.le_of_ble_eq_true rfl)) d_T_numbers_10 ⟨Nat.zero_le _, Nat.zero_le _⟩) hS (fun q _ h => hFc q h) hFc (fun r9 u9 t H locs ht hvm hp hB hz1 hk1 hS => ?_)
  obtain ⟨rfl, rfl⟩ := Prod.mk.inj hp.symm
  obtain ⟨hP, hD⟩ := bw_back hB ht hFc
  refine lv_istore_n hx hb d_T_numbers_13 rfl hl (by decide) (lv' := [(2, .int r6), (1, .int v4), (0, .ref (A 8))]) rfl (fun ls hl => ?_)
  refine lv_aload_n hx hb d_T_numbers_14 rfl (lv_at hl 2 rfl) ?_
  refine lv_iload_n hx hb d_T_numbers_15 rfl (lv_at hl 1 rfl) ?_
  obtain ⟨⟨r9, g8⟩, e_g8, hF⟩ := Option.bind_eq_some_iff.mp hF
  have hFc := va_free (wc := wK A cc g5) hD hS hA [0, 1, 2, 3, 4, 5, 6, 7, 8, 9] rfl
  refine va_calli (va_runV (As := [.int v4]) (rest := []) ⟨hx, hb, hml, hown, hts⟩ (k_T_numberAt l D A cc g5 v4 _ (r9, g8) e_g8) (cwV 1 hts (ga_V ww_187 ww_189 wp_1 ww_3 ww_190) rfl rfl rfl (by decide +kernel) ⟨by decide, by decide⟩) (pw_pre (q0 := 8) (ci := 1) hP hK hD hN rfl rfl) rfl rfl hl.1 rfl (lv_room (Nat.le_of_ble_eq_true rfl)) d_T_numbers_16 ⟨Nat.zero_le _, Nat.zero_le _⟩) hS (fun q _ h => hFc q h) hFc (fun r9 u9 t H locs ht hvm hp hB hz1 hk1 hS => ?_)
  obtain ⟨rfl, rfl⟩ := Prod.mk.inj hp.symm
  obtain ⟨hP, hD⟩ := bw_back hB ht hFc
  refine lv_istore_n hx hb d_T_numbers_19 rfl hl (by decide) (lv' := [(3, .int r9), (2, .int r6), (1, .int v4), (0, .ref (A 8))]) rfl (fun ls hl => ?_)
  refine lv_iload_n hx hb d_T_numbers_20 rfl (lv_at hl 1 rfl) ?_
  obtain ⟨⟨j11, j12⟩, q14, hF⟩ := Option.bind_eq_some_iff.mp hF
  have k13 : ∀ (H : Heap) (locs : List Loc) (ls : Array Slot), va_P D vwC (wK A cc j12) H → va_D AA (wK A cc j12) → va_S AA s.heap H locs → lv_has ls 4 [] → W p l e rm_T_numbers s m ([Value.ref (A 8)] : List Value).toArray below meth c H locs 0 0 (MQ below (va_Ql (fun r u => (r, u) = res) (bw D (wK A cc) (kK cc) AA) AA) ([Value.ref (A 8)] : List Value).toArray s 0 0 AA) (F0 m 52 ls [.long j11]) := by
    intro H locs ls hP hD hS hl
    obtain rfl := Option.some.inj hF
    exact W.lret hx hb hr (fun t ht hW => ⟨⟨_, _, rfl, rfl, bw_end hP hK hD ht hW⟩, hS.F ht⟩) hS.2.2 d_T_numbers_52
  clear hF
  have hF := q14
  refine lv_if_lt hx hb d_T_numbers_21 (tgt := 49) (by decide) (fun h9 => ?_) (fun h9 => ?_)
  · have hF := (if_pos h9).symm.trans hF
    refine lv_ldc2 (v := (-1)) hx hb hown (hw _ ww_211) d_T_numbers_49 ?_
    cases Option.some.inj hF
    exact k13 _ _ ls hP hD hS (lv_sub hl [] rfl)
  · have hF := (if_neg h9).symm.trans hF
    refine lv_iload_n hx hb d_T_numbers_24 rfl (lv_at hl 0 rfl) ?_
    refine lv_if_lt hx hb d_T_numbers_25 (tgt := 49) (by decide) (fun h9 => ?_) (fun h9 => ?_)
    · have hF := (if_pos h9).symm.trans hF
      refine lv_ldc2 (v := (-1)) hx hb hown (hw _ ww_211) d_T_numbers_49 ?_
      cases Option.some.inj hF
      exact k13 _ _ ls hP hD hS (lv_sub hl [] rfl)
    · have hF := (if_neg h9).symm.trans hF
      refine lv_aload_n hx hb d_T_numbers_28 rfl (lv_at hl 3 rfl) ?_
      refine lv_iload_n hx hb d_T_numbers_29 rfl (lv_at hl 1 rfl) ?_
      refine lv_iload_n hx hb d_T_numbers_30 rfl (lv_at hl 0 rfl) ?_
      obtain ⟨⟨r17, g16⟩, e_g16, hF⟩ := Option.bind_eq_some_iff.mp hF
      have hFc := va_free (wc := wK A cc g8) hD hS hA [0, 1, 2, 3, 4, 5, 6, 7, 8, 9] rfl
      refine va_calli (va_runV (As := [.int r6, .int r9]) (rest := []) ⟨hx, hb, hml, hown, hts⟩ (k_T_areFormOf l D A cc g8 r6 r9 _ (r17, g16) e_g16) (cwV 2 hts (ga_V ww_191 ww_193 wp_2 ww_3 ww_194) rfl rfl rfl (by decide +kernel) ⟨by decide, by decide⟩) (pw_pre (q0 := 8) (ci := 1) hP hK hD hN rfl rfl) rfl rfl hl.1 rfl (lv_room (Nat.le_of_ble_eq_true rfl)) d_T_numbers_31 ⟨Nat.zero_le _, Nat.zero_le _⟩) hS (fun q _ h => hFc q h) hFc (fun r9 u9 t H locs ht hvm hp hB hz1 hk1 hS => ?_)
      obtain ⟨rfl, rfl⟩ := Prod.mk.inj hp.symm
      obtain ⟨hP, hD⟩ := bw_back hB ht hFc
      refine lv_if_eq hx hb d_T_numbers_34 (tgt := 49) (by decide) (fun h9 => ?_) (fun h9 => ?_)
      · have hF := (if_pos h9).symm.trans hF
        refine lv_ldc2 (v := (-1)) hx hb hown (hw _ ww_211) d_T_numbers_49 ?_
        cases Option.some.inj hF
        exact k13 _ _ ls hP hD hS (lv_sub hl [] rfl)
      · have hF := (if_neg h9).symm.trans hF
        refine lv_iload_n hx hb d_T_numbers_37 rfl (lv_at hl 1 rfl) ?_
        refine lv_i2l (v := Int32.toInt64 r6) hx hb d_T_numbers_38 rfl ?_
        refine lv_ldc2 (v := 4294967296) hx hb hown (hw _ ww_210) d_T_numbers_39 ?_
        refine lv_lmul hx hb d_T_numbers_42 ?_
        refine lv_iload_n hx hb d_T_numbers_43 rfl (lv_at hl 0 rfl) ?_
        refine lv_i2l (v := Int32.toInt64 r9) hx hb d_T_numbers_44 rfl ?_
        refine lv_ladd hx hb d_T_numbers_45 ?_
        refine lv_goto hx hb d_T_numbers_46 (tgt := 52) (by decide) ?_
        cases Option.some.inj hF
        exact k13 _ _ ls hP hD hS (lv_sub hl [] rfl)
def f_K_fill (g0 : sK) (a0 : Int32) (a1 : Int64) (a2 : Int64) : Option (Int64 × sK) := if a0 < 0 ∨ 6 ≤ Int32.toNatClampNeg a0 then none else (if a0 < 0 ∨ 6 ≤ Int32.toNatClampNeg a0 then none else (Option.bind (f_C_toCode a1) (fun r3 => some (r3, ((vp_updL g0.1 (Int32.toNatClampNeg a0) a1), (vp_updL g0.2.1 (Int32.toNatClampNeg a0) a2), g0.2.2.1, g0.2.2.2.1, g0.2.2.2.2.1, g0.2.2.2.2.2.1, g0.2.2.2.2.2.2.1, g0.2.2.2.2.2.2.2.1, g0.2.2.2.2.2.2.2.2.1, g0.2.2.2.2.2.2.2.2.2)))))
abbrev rm_K_fill : Room := { frames := 2, cells := 0, slots := 0, locals := 42 }
set_option maxHeartbeats 4000000 in
set_option maxRecDepth 100000 in
theorem k_K_fill (l : Launch) (D : va_G) (A : Nat → Nat) (cc : Nat → ClassId) (g0 : sK) (a0 : Int32) (a1 : Int64) (a2 : Int64) (sz : Nat) (res : (Int64 × sK)) (hF : f_K_fill g0 a0 a1 a2 = some res) : Met l y_K_fill (Cond.code y_K_fill b_K_fill 6 (some .long) :: wa) rm_K_fill (pw D (wK A cc g0) (kK cc) [.ref (A 0), .int a0, .long a1, .long a2] sz) (va_Ql (fun r u => (r, u) = res) (bw D (wK A cc) (kK cc) (va_A (wK A cc g0) sz)) (va_A (wK A cc g0) sz)) 0 0 (va_A (wK A cc g0) sz) := by
  refine Met.ofW (cc := b_K_fill) (maxL := 6) (ret := (some .long)) (by decide) rfl ?_
  intro p e s m args below meth c s₁ B hml hv
  obtain ⟨rfl, hsz, hP, hK, hD0, hN⟩ := hv
  have hx := B.exec
  have hb := B.bytes
  have hr := B.returns
  have hts := atoms_spec (ws := Cond.code y_K_fill b_K_fill 6 (some .long) :: wa) B.pre
  have hw : ∀ w ∈ wa, w.before _ s = true := fun w h => hts w (List.mem_cons_of_mem _ h)
  have hown : s.vm.findClass R_K = some m.cls := findClass_of_methodNamed B.named
  have hlocks := B.notSynchronized
  subst hsz
  have hD := hD0.self (sz := s.heap.size)
  generalize hAe : va_A (wK A cc g0) s.heap.size = AA at hD ⊢
  have hA : ∀ q : Nat, s.heap.size ≤ q → AA q := fun q h => by rw [← hAe]; exact Or.inr h
  have hS : va_S AA s.heap s.heap [] := va_S.rf
  have hl := lv_entry ([.ref (A 0), .int a0, .long a1, .long a2]) (n := 6) (Nat.le_of_ble_eq_true rfl)
  rw [lg_entry_eq]
  generalize (lg_sl ([.ref (A 0), .int a0, .long a1, .long a2]) ++ List.replicate (6 - (lg_sl ([.ref (A 0), .int a0, .long a1, .long a2])).length) Slot.unset).toArray = ls at hl ⊢
  have hl : lv_has ls 6 [(0, .ref (A 0)), (1, .int a0), (2, .long a1), (4, .long a2)] := hl
  unfold f_K_fill at hF
  refine lv_aload_n hx hb d_K_fill_0 rfl (lv_at hl 0 rfl) ?_
  refine va_get (D := D) (ci := 2) (v := .ref (A 1)) (C := R_K) (T := T_K) (N := 5) hx hb hts in_K hown hK hP 0 rfl rfl 0 (by decide) (hw _ ww_62) (fun _ h9 => h9) rfl d_K_fill_1 ?_
  refine lv_iload_n hx hb d_K_fill_4 rfl (lv_at hl 1 rfl) ?_
  refine lv_lload_n hx hb d_K_fill_5 rfl (lv_at hl 2 rfl) ?_
  by_cases h1 : a0 < 0 ∨ 6 ≤ Int32.toNatClampNeg a0
  · have h0 := (if_pos h1).symm.trans hF; cases h0
  have hF := (if_neg h1).symm.trans hF
  refine va_last hx hb hK hP hD hS 1 0 rfl rfl h1 d_K_fill_6 (fun H locs hP hD hS => ?_)
  have hP : va_P D vwC (wK A cc ((vp_updL g0.1 (Int32.toNatClampNeg a0) a1), g0.2.1, g0.2.2.1, g0.2.2.2.1, g0.2.2.2.2.1, g0.2.2.2.2.2.1, g0.2.2.2.2.2.2.1, g0.2.2.2.2.2.2.2.1, g0.2.2.2.2.2.2.2.2.1, g0.2.2.2.2.2.2.2.2.2)) H := hP
  have hD : va_D AA (wK A cc ((vp_updL g0.1 (Int32.toNatClampNeg a0) a1), g0.2.1, g0.2.2.1, g0.2.2.2.1, g0.2.2.2.2.1, g0.2.2.2.2.2.1, g0.2.2.2.2.2.2.1, g0.2.2.2.2.2.2.2.1, g0.2.2.2.2.2.2.2.2.1, g0.2.2.2.2.2.2.2.2.2)) := hD
  refine lv_aload_n hx hb d_K_fill_7 rfl (lv_at hl 0 rfl) ?_
  refine va_get (D := D) (ci := 2) (v := .ref (A 2)) (C := R_K) (T := T_K) (N := 5) hx hb hts in_K hown hK hP 0 rfl rfl 1 (by decide) (hw _ ww_63) (fun _ h9 => h9) rfl d_K_fill_8 ?_
  refine lv_iload_n hx hb d_K_fill_11 rfl (lv_at hl 1 rfl) ?_
  refine lv_lload hx hb d_K_fill_12 (lv_at hl 3 rfl) ?_
  by_cases h2 : a0 < 0 ∨ 6 ≤ Int32.toNatClampNeg a0
  · have h0 := (if_pos h2).symm.trans hF; cases h0
  have hF := (if_neg h2).symm.trans hF
  refine va_last hx hb hK hP hD hS 2 1 rfl rfl h2 d_K_fill_14 (fun H locs hP hD hS => ?_)
  have hP : va_P D vwC (wK A cc ((vp_updL g0.1 (Int32.toNatClampNeg a0) a1), (vp_updL g0.2.1 (Int32.toNatClampNeg a0) a2), g0.2.2.1, g0.2.2.2.1, g0.2.2.2.2.1, g0.2.2.2.2.2.1, g0.2.2.2.2.2.2.1, g0.2.2.2.2.2.2.2.1, g0.2.2.2.2.2.2.2.2.1, g0.2.2.2.2.2.2.2.2.2)) H := hP
  have hD : va_D AA (wK A cc ((vp_updL g0.1 (Int32.toNatClampNeg a0) a1), (vp_updL g0.2.1 (Int32.toNatClampNeg a0) a2), g0.2.2.1, g0.2.2.2.1, g0.2.2.2.2.1, g0.2.2.2.2.2.1, g0.2.2.2.2.2.2.1, g0.2.2.2.2.2.2.2.1, g0.2.2.2.2.2.2.2.2.1, g0.2.2.2.2.2.2.2.2.2)) := hD
  refine lv_lload_n hx hb d_K_fill_15 rfl (lv_at hl 2 rfl) ?_
  obtain ⟨r3, e_r3, hF⟩ := Option.bind_eq_some_iff.mp hF
  refine vp_callSl (va_runS (As := [.long a1]) (rest := []) ⟨hx, hb, hml, hown, hts⟩ (k_C_toCode l a1 r3 e_r3) (va_cwS 1 hts (ga_S ww_109 ww_110 ww_11 ww_111) rfl rfl rfl (by decide +kernel) ⟨by decide, by decide⟩) (pcs_pre hN) rfl rfl hl.1 rfl (lv_room (Nat.le_of_ble_eq_true rfl)) d_K_fill_16 ⟨Nat.zero_le _, Nat.zero_le _⟩).run (fun z9 hz9 => ?_)
  obtain rfl : r3 = z9 := hz9.symm
  obtain rfl := Option.some.inj hF
  exact W.lret hx hb hr (fun t ht hW => ⟨⟨_, _, rfl, rfl, bw_end hP hK hD ht hW⟩, hS.F ht⟩) hS.2.2 d_K_fill_19
def f_K_mark (g0 : sK)  : Option (Int32 × sK) := some (g0.2.2.1, g0)
abbrev rm_K_mark : Room := { frames := 0, cells := 0, slots := 0, locals := 0 }
set_option maxHeartbeats 4000000 in
set_option maxRecDepth 100000 in
theorem k_K_mark (l : Launch) (D : va_G) (A : Nat → Nat) (cc : Nat → ClassId) (g0 : sK)  (sz : Nat) (res : (Int32 × sK)) (hF : f_K_mark g0  = some res) : Met l y_K_mark (Cond.code y_K_mark b_K_mark 1 (some .int) :: wa) rm_K_mark (pw D (wK A cc g0) (kK cc) [.ref (A 0)] sz) (va_Qi (fun r u => (r, u) = res) (bw D (wK A cc) (kK cc) (va_A (wK A cc g0) sz)) (va_A (wK A cc g0) sz)) 0 0 (va_A (wK A cc g0) sz) := by
  refine Met.ofW (cc := b_K_mark) (maxL := 1) (ret := (some .int)) (by decide) rfl ?_
  intro p e s m args below meth c s₁ B hml hv
  obtain ⟨rfl, hsz, hP, hK, hD0, hN⟩ := hv
  have hx := B.exec
  have hb := B.bytes
  have hr := B.returns
  have hts := atoms_spec (ws := Cond.code y_K_mark b_K_mark 1 (some .int) :: wa) B.pre
  have hw : ∀ w ∈ wa, w.before _ s = true := fun w h => hts w (List.mem_cons_of_mem _ h)
  have hown : s.vm.findClass R_K = some m.cls := findClass_of_methodNamed B.named
  have hlocks := B.notSynchronized
  subst hsz
  have hD := hD0.self (sz := s.heap.size)
  generalize hAe : va_A (wK A cc g0) s.heap.size = AA at hD ⊢
  have hA : ∀ q : Nat, s.heap.size ≤ q → AA q := fun q h => by rw [← hAe]; exact Or.inr h
  have hS : va_S AA s.heap s.heap [] := va_S.rf
  have hl := lv_entry ([.ref (A 0)]) (n := 1) (Nat.le_of_ble_eq_true rfl)
  rw [lg_entry_eq]
  generalize (lg_sl ([.ref (A 0)]) ++ List.replicate (1 - (lg_sl ([.ref (A 0)])).length) Slot.unset).toArray = ls at hl ⊢
  have hl : lv_has ls 1 [(0, .ref (A 0))] := hl
  unfold f_K_mark at hF
  refine lv_aload_n hx hb d_K_mark_0 rfl (lv_at hl 0 rfl) ?_
  refine va_get (D := D) (ci := 2) (v := .int g0.2.2.1) (C := R_K) (T := T_K) (N := 5) hx hb hts in_K hown hK hP 0 rfl rfl 4 (by decide) (hw _ ww_66) (fun _ h9 => h9) rfl d_K_mark_1 ?_
  obtain rfl := Option.some.inj hF
  exact W.iret hx hb hr (fun t ht hW => ⟨⟨_, _, rfl, rfl, bw_end hP hK hD ht hW⟩, hS.F ht⟩) hS.2.2 d_K_mark_4
def f_K_right (g0 : sK) (a0 : Int64) : Option (Int32 × sK) := Option.bind (f_I_balance g0 a0) (fun t3 => match t3 with | (r2, g1) => (Option.bind (f_I_clear g1 ) (fun g4 => if r2 = 0 ∨ r2 = 1 then some (r2, g4) else none)))
abbrev rm_K_right : Room := { frames := 6, cells := 0, slots := 0, locals := 182 }
set_option maxHeartbeats 4000000 in
set_option maxRecDepth 100000 in
theorem k_K_right (l : Launch) (D : va_G) (A : Nat → Nat) (cc : Nat → ClassId) (g0 : sK) (a0 : Int64) (sz : Nat) (res : (Int32 × sK)) (hF : f_K_right g0 a0 = some res) : Met l y_K_right (Cond.code y_K_right b_K_right 4 (some .boolean) :: wa) rm_K_right (pw D (wK A cc g0) (kK cc) [.ref (A 0), .long a0] sz) (va_Qi (fun r u => (r, u) = res) (bw D (wK A cc) (kK cc) (va_A (wK A cc g0) sz)) (va_A (wK A cc g0) sz)) 0 0 (va_A (wK A cc g0) sz) := by
  refine Met.ofW (cc := b_K_right) (maxL := 4) (ret := (some .boolean)) (by decide) rfl ?_
  intro p e s m args below meth c s₁ B hml hv
  obtain ⟨rfl, hsz, hP, hK, hD0, hN⟩ := hv
  have hx := B.exec
  have hb := B.bytes
  have hr := B.returns
  have hts := atoms_spec (ws := Cond.code y_K_right b_K_right 4 (some .boolean) :: wa) B.pre
  have hw : ∀ w ∈ wa, w.before _ s = true := fun w h => hts w (List.mem_cons_of_mem _ h)
  have hown : s.vm.findClass R_K = some m.cls := findClass_of_methodNamed B.named
  have hlocks := B.notSynchronized
  subst hsz
  have hD := hD0.self (sz := s.heap.size)
  generalize hAe : va_A (wK A cc g0) s.heap.size = AA at hD ⊢
  have hA : ∀ q : Nat, s.heap.size ≤ q → AA q := fun q h => by rw [← hAe]; exact Or.inr h
  have hS : va_S AA s.heap s.heap [] := va_S.rf
  have hl := lv_entry ([.ref (A 0), .long a0]) (n := 4) (Nat.le_of_ble_eq_true rfl)
  rw [lg_entry_eq]
  generalize (lg_sl ([.ref (A 0), .long a0]) ++ List.replicate (4 - (lg_sl ([.ref (A 0), .long a0])).length) Slot.unset).toArray = ls at hl ⊢
  have hl : lv_has ls 4 [(0, .ref (A 0)), (1, .long a0)] := hl
  unfold f_K_right at hF
  refine lv_aload_n hx hb d_K_right_0 rfl (lv_at hl 0 rfl) ?_
  refine va_get (D := D) (ci := 2) (v := .ref (A 3)) (C := R_K) (T := T_K) (N := 5) hx hb hts in_K hown hK hP 0 rfl rfl 2 (by decide) (hw _ ww_64) (fun _ h9 => h9) rfl d_K_right_1 ?_
  refine lv_lload_n hx hb d_K_right_4 rfl (lv_at hl 1 rfl) ?_
  obtain ⟨⟨r2, g1⟩, e_g1, hF⟩ := Option.bind_eq_some_iff.mp hF
  have hFc := va_free (wc := wK A cc g0) hD hS hA [0, 1, 2, 3, 4, 5, 6, 7, 8, 9] rfl
  refine va_calli (va_runV (As := [.long a0]) (rest := []) ⟨hx, hb, hml, hown, hts⟩ (k_I_balance l D A cc g0 a0 _ (r2, g1) e_g1) (cwV 1 hts (ga_V ww_120 ww_121 ww_122 ww_2 ww_123) rfl rfl rfl (by decide +kernel) ⟨by decide, by decide⟩) (pw_pre (q0 := 3) (ci := 0) hP hK hD hN rfl rfl) rfl rfl hl.1 rfl (lv_room (Nat.le_of_ble_eq_true rfl)) d_K_right_5 ⟨Nat.zero_le _, Nat.zero_le _⟩) hS (fun q _ h => hFc q h) hFc (fun r9 u9 t H locs ht hvm hp hB hz1 hk1 hS => ?_)
  obtain ⟨rfl, rfl⟩ := Prod.mk.inj hp.symm
  obtain ⟨hP, hD⟩ := bw_back hB ht hFc
  refine lv_istore_n hx hb d_K_right_8 rfl hl (by decide) (lv' := [(3, .int r2), (0, .ref (A 0)), (1, .long a0)]) rfl (fun ls hl => ?_)
  refine lv_aload_n hx hb d_K_right_9 rfl (lv_at hl 1 rfl) ?_
  refine va_get (D := D) (ci := 2) (v := .ref (A 3)) (C := R_K) (T := T_K) (N := 5) hx hb hts in_K hown hK hP 0 rfl rfl 2 (by decide) (hw _ ww_64) (fun _ h9 => h9) rfl d_K_right_10 ?_
  obtain ⟨g4, e_g4, hF⟩ := Option.bind_eq_some_iff.mp hF
  have hFc := va_free (wc := wK A cc g1) hD hS hA [0, 1, 2, 3, 4, 5, 6, 7, 8, 9] rfl
  refine va_callv (va_runV (As := []) (rest := []) ⟨hx, hb, hml, hown, hts⟩ (k_I_clear l D A cc g1  _ g4 e_g4) (cwV 0 hts (ga_V ww_171 ww_172 ww_173 ww_2 ww_174) rfl rfl rfl (by decide +kernel) ⟨by decide, by decide⟩) (pw_pre (q0 := 3) (ci := 0) hP hK hD hN rfl rfl) rfl rfl hl.1 rfl (lv_room (Nat.le_of_ble_eq_true rfl)) d_K_right_13 ⟨Nat.zero_le _, Nat.zero_le _⟩) hS (fun q _ h => hFc q h) hFc (fun u9 t H locs ht hvm hp hB hz1 hk1 hS => ?_)
  obtain rfl : g4 = u9 := hp.symm
  obtain ⟨hP, hD⟩ := bw_back hB ht hFc
  refine lv_iload_n hx hb d_K_right_16 rfl (lv_at hl 0 rfl) ?_
  by_cases h5 : ¬ (r2 = 0 ∨ r2 = 1)
  · have h0 := (if_neg h5).symm.trans hF; cases h0
  have h5 := Classical.not_not.mp h5
  have hF := (if_pos h5).symm.trans hF
  obtain rfl := Option.some.inj hF
  exact W.zret hx hb hr (nz_b h5) (fun t ht hW => ⟨⟨_, _, rfl, rfl, bw_end hP hK hD ht hW⟩, hS.F ht⟩) hS.2.2 d_K_right_17
def f_K_read (g0 : sK)  : Option (Int64 × sK) := Option.bind (f_T_numbers g0 ) (fun t3 => match t3 with | (r2, g1) => (Option.bind (f_T_clear g1 ) (fun g4 => some (r2, g4))))
abbrev rm_K_read : Room := { frames := 5, cells := 0, slots := 0, locals := 111 }
set_option maxHeartbeats 4000000 in
set_option maxRecDepth 100000 in
theorem k_K_read (l : Launch) (D : va_G) (A : Nat → Nat) (cc : Nat → ClassId) (g0 : sK)  (sz : Nat) (res : (Int64 × sK)) (hF : f_K_read g0  = some res) : Met l y_K_read (Cond.code y_K_read b_K_read 3 (some .long) :: wa) rm_K_read (pw D (wK A cc g0) (kK cc) [.ref (A 0)] sz) (va_Ql (fun r u => (r, u) = res) (bw D (wK A cc) (kK cc) (va_A (wK A cc g0) sz)) (va_A (wK A cc g0) sz)) 0 0 (va_A (wK A cc g0) sz) := by
  refine Met.ofW (cc := b_K_read) (maxL := 3) (ret := (some .long)) (by decide) rfl ?_
  intro p e s m args below meth c s₁ B hml hv
  obtain ⟨rfl, hsz, hP, hK, hD0, hN⟩ := hv
  have hx := B.exec
  have hb := B.bytes
  have hr := B.returns
  have hts := atoms_spec (ws := Cond.code y_K_read b_K_read 3 (some .long) :: wa) B.pre
  have hw : ∀ w ∈ wa, w.before _ s = true := fun w h => hts w (List.mem_cons_of_mem _ h)
  have hown : s.vm.findClass R_K = some m.cls := findClass_of_methodNamed B.named
  have hlocks := B.notSynchronized
  subst hsz
  have hD := hD0.self (sz := s.heap.size)
  generalize hAe : va_A (wK A cc g0) s.heap.size = AA at hD ⊢
  have hA : ∀ q : Nat, s.heap.size ≤ q → AA q := fun q h => by rw [← hAe]; exact Or.inr h
  have hS : va_S AA s.heap s.heap [] := va_S.rf
  have hl := lv_entry ([.ref (A 0)]) (n := 3) (Nat.le_of_ble_eq_true rfl)
  rw [lg_entry_eq]
  generalize (lg_sl ([.ref (A 0)]) ++ List.replicate (3 - (lg_sl ([.ref (A 0)])).length) Slot.unset).toArray = ls at hl ⊢
  have hl : lv_has ls 3 [(0, .ref (A 0))] := hl
  unfold f_K_read at hF
  refine lv_aload_n hx hb d_K_read_0 rfl (lv_at hl 0 rfl) ?_
  refine va_get (D := D) (ci := 2) (v := .ref (A 8)) (C := R_K) (T := T_K) (N := 5) hx hb hts in_K hown hK hP 0 rfl rfl 3 (by decide) (hw _ ww_65) (fun _ h9 => h9) rfl d_K_read_1 ?_
  obtain ⟨⟨r2, g1⟩, e_g1, hF⟩ := Option.bind_eq_some_iff.mp hF
  have hFc := va_free (wc := wK A cc g0) hD hS hA [0, 1, 2, 3, 4, 5, 6, 7, 8, 9] rfl
  refine va_calll (va_runV (As := []) (rest := []) ⟨hx, hb, hml, hown, hts⟩ (k_T_numbers l D A cc g0  _ (r2, g1) e_g1) (cwV 0 hts (ga_V ww_179 ww_180 ww_181 ww_3 ww_182) rfl rfl rfl (by decide +kernel) ⟨by decide, by decide⟩) (pw_pre (q0 := 8) (ci := 1) hP hK hD hN rfl rfl) rfl rfl hl.1 rfl (lv_room (Nat.le_of_ble_eq_true rfl)) d_K_read_4 ⟨Nat.zero_le _, Nat.zero_le _⟩) hS (fun q _ h => hFc q h) hFc (fun r9 u9 t H locs ht hvm hp hB hz1 hk1 hS => ?_)
  obtain ⟨rfl, rfl⟩ := Prod.mk.inj hp.symm
  obtain ⟨hP, hD⟩ := bw_back hB ht hFc
  refine lv_lstore_n hx hb d_K_read_7 rfl hl (by decide) (lv' := [(1, .long r2), (0, .ref (A 0))]) rfl (fun ls hl => ?_)
  refine lv_aload_n hx hb d_K_read_8 rfl (lv_at hl 1 rfl) ?_
  refine va_get (D := D) (ci := 2) (v := .ref (A 8)) (C := R_K) (T := T_K) (N := 5) hx hb hts in_K hown hK hP 0 rfl rfl 3 (by decide) (hw _ ww_65) (fun _ h9 => h9) rfl d_K_read_9 ?_
  obtain ⟨g4, e_g4, hF⟩ := Option.bind_eq_some_iff.mp hF
  have hFc := va_free (wc := wK A cc g1) hD hS hA [0, 1, 2, 3, 4, 5, 6, 7, 8, 9] rfl
  refine va_callv (va_runV (As := []) (rest := []) ⟨hx, hb, hml, hown, hts⟩ (k_T_clear l D A cc g1  _ g4 e_g4) (cwV 0 hts (ga_V ww_212 ww_213 ww_214 ww_3 ww_215) rfl rfl rfl (by decide +kernel) ⟨by decide, by decide⟩) (pw_pre (q0 := 8) (ci := 1) hP hK hD hN rfl rfl) rfl rfl hl.1 rfl (lv_room (Nat.le_of_ble_eq_true rfl)) d_K_read_12 ⟨Nat.zero_le _, Nat.zero_le _⟩) hS (fun q _ h => hFc q h) hFc (fun u9 t H locs ht hvm hp hB hz1 hk1 hS => ?_)
  obtain rfl : g4 = u9 := hp.symm
  obtain ⟨hP, hD⟩ := bw_back hB ht hFc
  refine lv_lload_n hx hb d_K_read_15 rfl (lv_at hl 0 rfl) ?_
  obtain rfl := Option.some.inj hF
  exact W.lret hx hb hr (fun t ht hW => ⟨⟨_, _, rfl, rfl, bw_end hP hK hD ht hW⟩, hS.F ht⟩) hS.2.2 d_K_read_16
def f_K_even (g0 : sK) (a0 : Int32) : Option (Int64 × sK) := Option.bind (f_C_pointAt (Int32.toInt64 a0) 0) (fun r1 => Option.bind (f_C_toCode r1) (fun r2 => some (r2, g0)))
abbrev rm_K_even : Room := { frames := 3, cells := 0, slots := 0, locals := 70 }
set_option maxHeartbeats 4000000 in
set_option maxRecDepth 100000 in
theorem k_K_even (l : Launch) (D : va_G) (A : Nat → Nat) (cc : Nat → ClassId) (g0 : sK) (a0 : Int32) (sz : Nat) (res : (Int64 × sK)) (hF : f_K_even g0 a0 = some res) : Met l y_K_even (Cond.code y_K_even b_K_even 2 (some .long) :: wa) rm_K_even (pw D (wK A cc g0) (kK cc) [.ref (A 0), .int a0] sz) (va_Ql (fun r u => (r, u) = res) (bw D (wK A cc) (kK cc) (va_A (wK A cc g0) sz)) (va_A (wK A cc g0) sz)) 0 0 (va_A (wK A cc g0) sz) := by
  refine Met.ofW (cc := b_K_even) (maxL := 2) (ret := (some .long)) (by decide) rfl ?_
  intro p e s m args below meth c s₁ B hml hv
  obtain ⟨rfl, hsz, hP, hK, hD0, hN⟩ := hv
  have hx := B.exec
  have hb := B.bytes
  have hr := B.returns
  have hts := atoms_spec (ws := Cond.code y_K_even b_K_even 2 (some .long) :: wa) B.pre
  have hw : ∀ w ∈ wa, w.before _ s = true := fun w h => hts w (List.mem_cons_of_mem _ h)
  have hown : s.vm.findClass R_K = some m.cls := findClass_of_methodNamed B.named
  have hlocks := B.notSynchronized
  subst hsz
  have hD := hD0.self (sz := s.heap.size)
  generalize hAe : va_A (wK A cc g0) s.heap.size = AA at hD ⊢
  have hA : ∀ q : Nat, s.heap.size ≤ q → AA q := fun q h => by rw [← hAe]; exact Or.inr h
  have hS : va_S AA s.heap s.heap [] := va_S.rf
  have hl := lv_entry ([.ref (A 0), .int a0]) (n := 2) (Nat.le_of_ble_eq_true rfl)
  rw [lg_entry_eq]
  generalize (lg_sl ([.ref (A 0), .int a0]) ++ List.replicate (2 - (lg_sl ([.ref (A 0), .int a0])).length) Slot.unset).toArray = ls at hl ⊢
  have hl : lv_has ls 2 [(0, .ref (A 0)), (1, .int a0)] := hl
  unfold f_K_even at hF
  refine lv_iload_n hx hb d_K_even_0 rfl (lv_at hl 1 rfl) ?_
  refine lv_i2l (v := Int32.toInt64 a0) hx hb d_K_even_1 rfl ?_
  refine lv_iconst (v := 0) hx hb d_K_even_2 (by decide) ?_
  obtain ⟨r1, e_r1, hF⟩ := Option.bind_eq_some_iff.mp hF
  refine vp_callSl (va_runS (As := [.long (Int32.toInt64 a0), .int 0]) (rest := []) ⟨hx, hb, hml, hown, hts⟩ (k_C_pointAt l (Int32.toInt64 a0) 0 r1 e_r1) (va_cwS 2 hts (ga_S ww_82 ww_83 ww_11 ww_84) rfl rfl rfl (by decide +kernel) ⟨by decide, by decide⟩) (pcs_pre hN) rfl rfl hl.1 rfl (lv_room (Nat.le_of_ble_eq_true rfl)) d_K_even_3 ⟨Nat.zero_le _, Nat.zero_le _⟩).run (fun z9 hz9 => ?_)
  obtain rfl : r1 = z9 := hz9.symm
  obtain ⟨r2, e_r2, hF⟩ := Option.bind_eq_some_iff.mp hF
  refine vp_callSl (va_runS (As := [.long r1]) (rest := []) ⟨hx, hb, hml, hown, hts⟩ (k_C_toCode l r1 r2 e_r2) (va_cwS 1 hts (ga_S ww_109 ww_110 ww_11 ww_111) rfl rfl rfl (by decide +kernel) ⟨by decide, by decide⟩) (pcs_pre hN) rfl rfl hl.1 rfl (lv_room (Nat.le_of_ble_eq_true rfl)) d_K_even_6 ⟨Nat.zero_le _, Nat.zero_le _⟩).run (fun z9 hz9 => ?_)
  obtain rfl : r2 = z9 := hz9.symm
  obtain rfl := Option.some.inj hF
  exact W.lret hx hb hr (fun t ht hW => ⟨⟨_, _, rfl, rfl, bw_end hP hK hD ht hW⟩, hS.F ht⟩) hS.2.2 d_K_even_9
