def f_K_needSlot (a0 : Int32) : Option (Except String Unit) := if a0 < 0 then (some (.error "java/lang/IndexOutOfBoundsException")) else (if a0 < 6 then (some (.ok ())) else (some (.error "java/lang/IndexOutOfBoundsException")))
abbrev rm_K_needSlot : Room := { frames := 0, cells := 0, slots := 0, locals := 0 }
abbrev rx_K_needSlot : Room := { frames := 6, cells := 1, slots := 6, locals := 90 }
set_option maxHeartbeats 4000000 in
set_option maxRecDepth 100000 in
theorem k_K_needSlot_ok (l : Launch) (a0 : Int32) (r : Unit) (hF : f_K_needSlot a0 = some (.ok r)) : Met l y_K_needSlot (Cond.code y_K_needSlot b_K_needSlot 1 none :: wa) rm_K_needSlot (pcs [.int a0]) (va_Sv (fun _ => True)) 0 0 (fun _ => False) := by
  refine Met.ofW (cc := b_K_needSlot) (maxL := 1) (ret := none) (by decide) rfl ?_
  intro p e s m args below meth c s₁ B hml hv
  obtain ⟨rfl, hN⟩ := hv
  have hx := B.exec
  have hb := B.bytes
  have hr := B.returns
  have hts := atoms_spec (ws := Cond.code y_K_needSlot b_K_needSlot 1 none :: wa) B.pre
  have hw : ∀ w ∈ wa, w.before _ s = true := fun w h => hts w (List.mem_cons_of_mem _ h)
  have hown : s.vm.findClass R_K = some m.cls := findClass_of_methodNamed B.named
  have hlocks := B.notSynchronized
  have hl := lv_entry ([.int a0]) (n := 1) (Nat.le_of_ble_eq_true rfl)
  rw [lg_entry_eq]
  generalize (lg_sl ([.int a0]) ++ List.replicate (1 - (lg_sl ([.int a0])).length) Slot.unset).toArray = ls at hl ⊢
  have hl : lv_has ls 1 [(0, .int a0)] := hl
  unfold f_K_needSlot at hF
  refine lv_iload_n hx hb d_K_needSlot_0 rfl (lv_at hl 0 rfl) ?_
  refine lv_if_lt hx hb d_K_needSlot_1 (tgt := 10) (by decide) (fun h9 => ?_) (fun h9 => ?_)
  · have hF := (if_pos h9).symm.trans hF
    cases hF
  · have hF := (if_neg h9).symm.trans hF
    refine lv_iload_n hx hb d_K_needSlot_4 rfl (lv_at hl 0 rfl) ?_
    refine lv_bipush (v := 6) hx hb d_K_needSlot_5 (by decide) ?_
    refine lv_icmp_lt hx hb d_K_needSlot_7 (tgt := 18) (by decide) (fun h9 => ?_) (fun h9 => ?_)
    · have hF := (if_pos h9).symm.trans hF
      exact W.vret hx hb hr (fun t ht hW => ⟨rfl, trivial, ht⟩) (fun _ h => nomatch h) d_K_needSlot_18
    · have hF := (if_neg h9).symm.trans hF
      cases hF
set_option maxHeartbeats 4000000 in
set_option maxRecDepth 100000 in
theorem k_K_needSlot_er (l : Launch) (hl0 : l.stackTraces = false) (a0 : Int32) (sz : Nat) (E0 : String) (hF : f_K_needSlot a0 = some (.error E0)) : vx_Met l y_K_needSlot (Cond.code y_K_needSlot b_K_needSlot 1 none :: wa) rx_K_needSlot (pcx [.int a0] sz) (va_Qv (fun _ : Unit => False) (fun _ _ => True) (fr sz)) (vx_X (fun _ : Unit => True) (fun E _ _ => E = E0) (fr sz)) 1 6 (fr sz) := by
  refine vx_ofW (cc := b_K_needSlot) (maxL := 1) (ret := none) (by decide) rfl ?_
  intro p e s m args below meth c s₁ B hml hout hv
  obtain ⟨rfl, hsz, hN, hX, hZ⟩ := hv
  subst hsz
  generalize hAe : fr s.heap.size = AA at hZ ⊢
  have hS : va_S AA s.heap s.heap [] := va_S.rf
  have hx := B.exec
  have hb := B.bytes
  have hr := B.returns
  have hts := atoms_spec (ws := Cond.code y_K_needSlot b_K_needSlot 1 none :: wa) B.pre
  have hw : ∀ w ∈ wa, w.before _ s = true := fun w h => hts w (List.mem_cons_of_mem _ h)
  have hown : s.vm.findClass R_K = some m.cls := findClass_of_methodNamed B.named
  have hlocks := B.notSynchronized
  have hl := lv_entry ([.int a0]) (n := 1) (Nat.le_of_ble_eq_true rfl)
  rw [lg_entry_eq]
  generalize (lg_sl ([.int a0]) ++ List.replicate (1 - (lg_sl ([.int a0])).length) Slot.unset).toArray = ls at hl ⊢
  have hl : lv_has ls 1 [(0, .int a0)] := hl
  unfold f_K_needSlot at hF
  refine lv_iload_n hx hb d_K_needSlot_0 rfl (lv_at hl 0 rfl) ?_
  refine lv_if_lt hx hb d_K_needSlot_1 (tgt := 10) (by decide) (fun h9 => ?_) (fun h9 => ?_)
  · have hF := (if_pos h9).symm.trans hF
    obtain rfl := Except.error.inj (Option.some.inj hF)
    exact vx_throw0 (cls := "java/lang/IndexOutOfBoundsException") (names := ["java/lang/RuntimeException", "java/lang/Exception"]) (ik := 173) (ic := 175) (A := AA) hx hb hl0 hown (by decide) (by decide) (hw _ ww_228) (hw _ ww_8) (xt_hat hw hX xg_IndexOutOfBoundsException xn_IndexOutOfBoundsException) xo_IndexOutOfBoundsException hZ.1 hZ.2 hS (hl.1.trans hml.symm) d_K_needSlot_10 d_K_needSlot_13 d_K_needSlot_14 d_K_needSlot_17 (fun x h => (hout x h).elim) (Nat.le_of_ble_eq_true rfl) (Nat.le_of_ble_eq_true rfl) (Nat.le_of_ble_eq_true rfl) (Nat.le_of_ble_eq_true rfl) hlocks (fun t ha hz hk => ⟨(), trivial, rfl, xt_F hS hz hk⟩) hS.2.2 (Nat.le_of_ble_eq_true rfl) (Nat.le_of_ble_eq_true rfl)
  · have hF := (if_neg h9).symm.trans hF
    refine lv_iload_n hx hb d_K_needSlot_4 rfl (lv_at hl 0 rfl) ?_
    refine lv_bipush (v := 6) hx hb d_K_needSlot_5 (by decide) ?_
    refine lv_icmp_lt hx hb d_K_needSlot_7 (tgt := 18) (by decide) (fun h9 => ?_) (fun h9 => ?_)
    · have hF := (if_pos h9).symm.trans hF
      cases hF
    · have hF := (if_neg h9).symm.trans hF
      obtain rfl := Except.error.inj (Option.some.inj hF)
      exact vx_throw0 (cls := "java/lang/IndexOutOfBoundsException") (names := ["java/lang/RuntimeException", "java/lang/Exception"]) (ik := 173) (ic := 175) (A := AA) hx hb hl0 hown (by decide) (by decide) (hw _ ww_228) (hw _ ww_8) (xt_hat hw hX xg_IndexOutOfBoundsException xn_IndexOutOfBoundsException) xo_IndexOutOfBoundsException hZ.1 hZ.2 hS (hl.1.trans hml.symm) d_K_needSlot_10 d_K_needSlot_13 d_K_needSlot_14 d_K_needSlot_17 (fun x h => (hout x h).elim) (Nat.le_of_ble_eq_true rfl) (Nat.le_of_ble_eq_true rfl) (Nat.le_of_ble_eq_true rfl) (Nat.le_of_ble_eq_true rfl) hlocks (fun t ha hz hk => ⟨(), trivial, rfl, xt_F hS hz hk⟩) hS.2.2 (Nat.le_of_ble_eq_true rfl) (Nat.le_of_ble_eq_true rfl)
def f_K_needArgument (a0 : Int32) : Option (Except String Unit) := if a0 = 0 then (some (.error "java/lang/IllegalArgumentException")) else (some (.ok ()))
abbrev rm_K_needArgument : Room := { frames := 0, cells := 0, slots := 0, locals := 0 }
abbrev rx_K_needArgument : Room := { frames := 6, cells := 1, slots := 6, locals := 90 }
set_option maxHeartbeats 4000000 in
set_option maxRecDepth 100000 in
theorem k_K_needArgument_ok (l : Launch) (a0 : Int32) (r : Unit) (hF : f_K_needArgument a0 = some (.ok r)) : Met l y_K_needArgument (Cond.code y_K_needArgument b_K_needArgument 1 none :: wa) rm_K_needArgument (pcs [.int a0]) (va_Sv (fun _ => True)) 0 0 (fun _ => False) := by
  refine Met.ofW (cc := b_K_needArgument) (maxL := 1) (ret := none) (by decide) rfl ?_
  intro p e s m args below meth c s₁ B hml hv
  obtain ⟨rfl, hN⟩ := hv
  have hx := B.exec
  have hb := B.bytes
  have hr := B.returns
  have hts := atoms_spec (ws := Cond.code y_K_needArgument b_K_needArgument 1 none :: wa) B.pre
  have hw : ∀ w ∈ wa, w.before _ s = true := fun w h => hts w (List.mem_cons_of_mem _ h)
  have hown : s.vm.findClass R_K = some m.cls := findClass_of_methodNamed B.named
  have hlocks := B.notSynchronized
  have hl := lv_entry ([.int a0]) (n := 1) (Nat.le_of_ble_eq_true rfl)
  rw [lg_entry_eq]
  generalize (lg_sl ([.int a0]) ++ List.replicate (1 - (lg_sl ([.int a0])).length) Slot.unset).toArray = ls at hl ⊢
  have hl : lv_has ls 1 [(0, .int a0)] := hl
  unfold f_K_needArgument at hF
  refine lv_iload_n hx hb d_K_needArgument_0 rfl (lv_at hl 0 rfl) ?_
  refine lv_if_ne hx hb d_K_needArgument_1 (tgt := 12) (by decide) (fun h9 => ?_) (fun h9 => ?_)
  · have hF := (if_neg h9).symm.trans hF
    exact W.vret hx hb hr (fun t ht hW => ⟨rfl, trivial, ht⟩) (fun _ h => nomatch h) d_K_needArgument_12
  · have hF := (if_pos h9).symm.trans hF
    cases hF
set_option maxHeartbeats 4000000 in
set_option maxRecDepth 100000 in
theorem k_K_needArgument_er (l : Launch) (hl0 : l.stackTraces = false) (a0 : Int32) (sz : Nat) (E0 : String) (hF : f_K_needArgument a0 = some (.error E0)) : vx_Met l y_K_needArgument (Cond.code y_K_needArgument b_K_needArgument 1 none :: wa) rx_K_needArgument (pcx [.int a0] sz) (va_Qv (fun _ : Unit => False) (fun _ _ => True) (fr sz)) (vx_X (fun _ : Unit => True) (fun E _ _ => E = E0) (fr sz)) 1 6 (fr sz) := by
  refine vx_ofW (cc := b_K_needArgument) (maxL := 1) (ret := none) (by decide) rfl ?_
  intro p e s m args below meth c s₁ B hml hout hv
  obtain ⟨rfl, hsz, hN, hX, hZ⟩ := hv
  subst hsz
  generalize hAe : fr s.heap.size = AA at hZ ⊢
  have hS : va_S AA s.heap s.heap [] := va_S.rf
  have hx := B.exec
  have hb := B.bytes
  have hr := B.returns
  have hts := atoms_spec (ws := Cond.code y_K_needArgument b_K_needArgument 1 none :: wa) B.pre
  have hw : ∀ w ∈ wa, w.before _ s = true := fun w h => hts w (List.mem_cons_of_mem _ h)
  have hown : s.vm.findClass R_K = some m.cls := findClass_of_methodNamed B.named
  have hlocks := B.notSynchronized
  have hl := lv_entry ([.int a0]) (n := 1) (Nat.le_of_ble_eq_true rfl)
  rw [lg_entry_eq]
  generalize (lg_sl ([.int a0]) ++ List.replicate (1 - (lg_sl ([.int a0])).length) Slot.unset).toArray = ls at hl ⊢
  have hl : lv_has ls 1 [(0, .int a0)] := hl
  unfold f_K_needArgument at hF
  refine lv_iload_n hx hb d_K_needArgument_0 rfl (lv_at hl 0 rfl) ?_
  refine lv_if_ne hx hb d_K_needArgument_1 (tgt := 12) (by decide) (fun h9 => ?_) (fun h9 => ?_)
  · have hF := (if_neg h9).symm.trans hF
    cases hF
  · have hF := (if_pos h9).symm.trans hF
    obtain rfl := Except.error.inj (Option.some.inj hF)
    exact vx_throw0 (cls := "java/lang/IllegalArgumentException") (names := ["java/lang/RuntimeException", "java/lang/Exception"]) (ik := 176) (ic := 178) (A := AA) hx hb hl0 hown (by decide) (by decide) (hw _ ww_299) (hw _ ww_10) (xt_hat hw hX xg_IllegalArgumentException xn_IllegalArgumentException) xo_IllegalArgumentException hZ.1 hZ.2 hS (hl.1.trans hml.symm) d_K_needArgument_4 d_K_needArgument_7 d_K_needArgument_8 d_K_needArgument_11 (fun x h => (hout x h).elim) (Nat.le_of_ble_eq_true rfl) (Nat.le_of_ble_eq_true rfl) (Nat.le_of_ble_eq_true rfl) (Nat.le_of_ble_eq_true rfl) hlocks (fun t ha hz hk => ⟨(), trivial, rfl, xt_F hS hz hk⟩) hS.2.2 (Nat.le_of_ble_eq_true rfl) (Nat.le_of_ble_eq_true rfl)
def f_K_pointOf (g0 : sK) (a0 : Int32) : Option (Except (String × sK) (Int64 × sK)) := if a0 < 0 ∨ 6 ≤ Int32.toNatClampNeg a0 then none else (if (lg_cmp (g0.1 (Int32.toNatClampNeg a0)) 0) = 0 then (some (.error ("java/util/NoSuchElementException", g0))) else (if a0 < 0 ∨ 6 ≤ Int32.toNatClampNeg a0 then none else (some (.ok (g0.1 (Int32.toNatClampNeg a0), g0)))))
abbrev rm_K_pointOf : Room := { frames := 0, cells := 0, slots := 0, locals := 0 }
abbrev rx_K_pointOf : Room := { frames := 6, cells := 1, slots := 6, locals := 90 }
set_option maxHeartbeats 4000000 in
set_option maxRecDepth 100000 in
theorem k_K_pointOf_ok (l : Launch) (D : va_G) (A : Nat → Nat) (cc : Nat → ClassId) (g0 : sK) (a0 : Int32) (sz : Nat) (res : (Int64 × sK)) (hF : f_K_pointOf g0 a0 = some (.ok res)) : Met l y_K_pointOf (Cond.code y_K_pointOf b_K_pointOf 2 (some .long) :: wa) rm_K_pointOf (pw D (wK A cc g0) (kK cc) [.ref (A 0), .int a0] sz) (va_Ql (fun r u => (r, u) = res) (bw D (wK A cc) (kK cc) (va_A (wK A cc g0) sz)) (va_A (wK A cc g0) sz)) 0 0 (va_A (wK A cc g0) sz) := by
  refine Met.ofW (cc := b_K_pointOf) (maxL := 2) (ret := (some .long)) (by decide) rfl ?_
  intro p e s m args below meth c s₁ B hml hv
  obtain ⟨rfl, hsz, hP, hK, hD0, hN⟩ := hv
  subst hsz
  have hD := hD0.self (sz := s.heap.size)
  generalize hAe : va_A (wK A cc g0) s.heap.size = AA at hD ⊢
  have hx := B.exec
  have hb := B.bytes
  have hr := B.returns
  have hts := atoms_spec (ws := Cond.code y_K_pointOf b_K_pointOf 2 (some .long) :: wa) B.pre
  have hw : ∀ w ∈ wa, w.before _ s = true := fun w h => hts w (List.mem_cons_of_mem _ h)
  have hown : s.vm.findClass R_K = some m.cls := findClass_of_methodNamed B.named
  have hlocks := B.notSynchronized
  have hA : ∀ q : Nat, s.heap.size ≤ q → AA q := fun q h => by rw [← hAe]; exact Or.inr h
  have hS : va_S AA s.heap s.heap [] := va_S.rf
  have hl := lv_entry ([.ref (A 0), .int a0]) (n := 2) (Nat.le_of_ble_eq_true rfl)
  rw [lg_entry_eq]
  generalize (lg_sl ([.ref (A 0), .int a0]) ++ List.replicate (2 - (lg_sl ([.ref (A 0), .int a0])).length) Slot.unset).toArray = ls at hl ⊢
  have hl : lv_has ls 2 [(0, .ref (A 0)), (1, .int a0)] := hl
  unfold f_K_pointOf at hF
  refine lv_aload_n hx hb d_K_pointOf_0 rfl (lv_at hl 0 rfl) ?_
  refine va_get (D := D) (ci := 2) (v := .ref (A 1)) (C := R_K) (T := T_K) (N := 5) hx hb hts in_K hown hK hP 0 rfl rfl 0 (by decide) (hw _ ww_62) (fun _ h9 => h9) rfl d_K_pointOf_1 ?_
  refine lv_iload_n hx hb d_K_pointOf_4 rfl (lv_at hl 1 rfl) ?_
  by_cases h1 : a0 < 0 ∨ 6 ≤ Int32.toNatClampNeg a0
  · have h0 := (if_pos h1).symm.trans hF; cases h0
  have hF := (if_neg h1).symm.trans hF
  refine va_lald hx hb hK hP 1 0 rfl rfl h1 d_K_pointOf_5 ?_
  refine lv_lconst (v := 0) hx hb d_K_pointOf_6 (by decide) ?_
  refine W.lcmp hx hb d_K_pointOf_7 ?_
  refine lv_if_ne hx hb d_K_pointOf_8 (tgt := 19) (by decide) (fun h9 => ?_) (fun h9 => ?_)
  · have hF := (if_neg h9).symm.trans hF
    refine lv_aload_n hx hb d_K_pointOf_19 rfl (lv_at hl 0 rfl) ?_
    refine va_get (D := D) (ci := 2) (v := .ref (A 1)) (C := R_K) (T := T_K) (N := 5) hx hb hts in_K hown hK hP 0 rfl rfl 0 (by decide) (hw _ ww_62) (fun _ h9 => h9) rfl d_K_pointOf_20 ?_
    refine lv_iload_n hx hb d_K_pointOf_23 rfl (lv_at hl 1 rfl) ?_
    by_cases h2 : a0 < 0 ∨ 6 ≤ Int32.toNatClampNeg a0
    · have h0 := (if_pos h2).symm.trans hF; cases h0
    have hF := (if_neg h2).symm.trans hF
    refine va_lald hx hb hK hP 1 0 rfl rfl h2 d_K_pointOf_24 ?_
    cases hF
    exact W.lret hx hb hr (fun t ht hW => ⟨⟨_, _, rfl, rfl, bw_end hP hK hD ht hW⟩, hS.F ht⟩) hS.2.2 d_K_pointOf_25
  · have hF := (if_pos h9).symm.trans hF
    cases hF
set_option maxHeartbeats 4000000 in
set_option maxRecDepth 100000 in
theorem k_K_pointOf_er (l : Launch) (hl0 : l.stackTraces = false) (D : va_G) (A : Nat → Nat) (cc : Nat → ClassId) (g0 : sK) (a0 : Int32) (sz : Nat) (E0 : String) (gE : sK) (hF : f_K_pointOf g0 a0 = some (.error (E0, gE))) : vx_Met l y_K_pointOf (Cond.code y_K_pointOf b_K_pointOf 2 (some .long) :: wa) rx_K_pointOf (pwx D (wK A cc g0) (kK cc) [.ref (A 0), .int a0] sz) (va_Ql (fun _ (_ : Unit) => False) (fun _ _ => True) (va_A (wK A cc g0) sz)) (vx_X (fun u => u = gE) (fun E u t => E = E0 ∧ bw D (wK A cc) (kK cc) (va_A (wK A cc g0) sz) u t) (va_A (wK A cc g0) sz)) 1 6 (va_A (wK A cc g0) sz) := by
  refine vx_ofW (cc := b_K_pointOf) (maxL := 2) (ret := (some .long)) (by decide) rfl ?_
  intro p e s m args below meth c s₁ B hml hout hv
  obtain ⟨⟨rfl, hsz, hP, hK, hD0, hN⟩, hX, hZ⟩ := hv
  subst hsz
  have hD := hD0.self (sz := s.heap.size)
  generalize hAe : va_A (wK A cc g0) s.heap.size = AA at hD hZ ⊢
  have hx := B.exec
  have hb := B.bytes
  have hr := B.returns
  have hts := atoms_spec (ws := Cond.code y_K_pointOf b_K_pointOf 2 (some .long) :: wa) B.pre
  have hw : ∀ w ∈ wa, w.before _ s = true := fun w h => hts w (List.mem_cons_of_mem _ h)
  have hown : s.vm.findClass R_K = some m.cls := findClass_of_methodNamed B.named
  have hlocks := B.notSynchronized
  have hA : ∀ q : Nat, s.heap.size ≤ q → AA q := fun q h => by rw [← hAe]; exact Or.inr h
  have hS : va_S AA s.heap s.heap [] := va_S.rf
  have hl := lv_entry ([.ref (A 0), .int a0]) (n := 2) (Nat.le_of_ble_eq_true rfl)
  rw [lg_entry_eq]
  generalize (lg_sl ([.ref (A 0), .int a0]) ++ List.replicate (2 - (lg_sl ([.ref (A 0), .int a0])).length) Slot.unset).toArray = ls at hl ⊢
  have hl : lv_has ls 2 [(0, .ref (A 0)), (1, .int a0)] := hl
  unfold f_K_pointOf at hF
  refine lv_aload_n hx hb d_K_pointOf_0 rfl (lv_at hl 0 rfl) ?_
  refine va_get (D := D) (ci := 2) (v := .ref (A 1)) (C := R_K) (T := T_K) (N := 5) hx hb hts in_K hown hK hP 0 rfl rfl 0 (by decide) (hw _ ww_62) (fun _ h9 => h9) rfl d_K_pointOf_1 ?_
  refine lv_iload_n hx hb d_K_pointOf_4 rfl (lv_at hl 1 rfl) ?_
  by_cases h1 : a0 < 0 ∨ 6 ≤ Int32.toNatClampNeg a0
  · have h0 := (if_pos h1).symm.trans hF; cases h0
  have hF := (if_neg h1).symm.trans hF
  refine va_lald hx hb hK hP 1 0 rfl rfl h1 d_K_pointOf_5 ?_
  refine lv_lconst (v := 0) hx hb d_K_pointOf_6 (by decide) ?_
  refine W.lcmp hx hb d_K_pointOf_7 ?_
  refine lv_if_ne hx hb d_K_pointOf_8 (tgt := 19) (by decide) (fun h9 => ?_) (fun h9 => ?_)
  · have hF := (if_neg h9).symm.trans hF
    refine lv_aload_n hx hb d_K_pointOf_19 rfl (lv_at hl 0 rfl) ?_
    refine va_get (D := D) (ci := 2) (v := .ref (A 1)) (C := R_K) (T := T_K) (N := 5) hx hb hts in_K hown hK hP 0 rfl rfl 0 (by decide) (hw _ ww_62) (fun _ h9 => h9) rfl d_K_pointOf_20 ?_
    refine lv_iload_n hx hb d_K_pointOf_23 rfl (lv_at hl 1 rfl) ?_
    by_cases h2 : a0 < 0 ∨ 6 ≤ Int32.toNatClampNeg a0
    · have h0 := (if_pos h2).symm.trans hF; cases h0
    have hF := (if_neg h2).symm.trans hF
    refine va_lald hx hb hK hP 1 0 rfl rfl h2 d_K_pointOf_24 ?_
    cases hF
  · have hF := (if_pos h9).symm.trans hF
    cases hF
    exact vx_throw0 (cls := "java/util/NoSuchElementException") (names := ["java/lang/RuntimeException", "java/lang/Exception"]) (ik := 179) (ic := 181) (A := AA) hx hb hl0 hown (by decide) (by decide) (hw _ ww_350) (hw _ ww_13) (xt_hat hw hX xg_NoSuchElementException xn_NoSuchElementException) xo_NoSuchElementException hZ.1 hZ.2 hS (hl.1.trans hml.symm) d_K_pointOf_11 d_K_pointOf_14 d_K_pointOf_15 d_K_pointOf_18 (fun x h => (hout x h).elim) (Nat.le_of_ble_eq_true rfl) (Nat.le_of_ble_eq_true rfl) (Nat.le_of_ble_eq_true rfl) (Nat.le_of_ble_eq_true rfl) hlocks (fun t ha hz hk => ⟨_, rfl, ⟨rfl, xt_bw hP hK hD hk ha⟩, xt_F hS hz hk⟩) hS.2.2 (Nat.le_of_ble_eq_true rfl) (Nat.le_of_ble_eq_true rfl)
def f_K_secretOf (g0 : sK) (a0 : Int32) : Option (Except (String × sK) (Int64 × sK)) := if a0 < 0 ∨ 6 ≤ Int32.toNatClampNeg a0 then none else (if (lg_cmp (g0.2.1 (Int32.toNatClampNeg a0)) 0) = 0 then (some (.error ("java/lang/IllegalStateException", g0))) else (if a0 < 0 ∨ 6 ≤ Int32.toNatClampNeg a0 then none else (some (.ok (g0.2.1 (Int32.toNatClampNeg a0), g0)))))
abbrev rm_K_secretOf : Room := { frames := 0, cells := 0, slots := 0, locals := 0 }
abbrev rx_K_secretOf : Room := { frames := 6, cells := 1, slots := 6, locals := 90 }
set_option maxHeartbeats 4000000 in
set_option maxRecDepth 100000 in
theorem k_K_secretOf_ok (l : Launch) (D : va_G) (A : Nat → Nat) (cc : Nat → ClassId) (g0 : sK) (a0 : Int32) (sz : Nat) (res : (Int64 × sK)) (hF : f_K_secretOf g0 a0 = some (.ok res)) : Met l y_K_secretOf (Cond.code y_K_secretOf b_K_secretOf 2 (some .long) :: wa) rm_K_secretOf (pw D (wK A cc g0) (kK cc) [.ref (A 0), .int a0] sz) (va_Ql (fun r u => (r, u) = res) (bw D (wK A cc) (kK cc) (va_A (wK A cc g0) sz)) (va_A (wK A cc g0) sz)) 0 0 (va_A (wK A cc g0) sz) := by
  refine Met.ofW (cc := b_K_secretOf) (maxL := 2) (ret := (some .long)) (by decide) rfl ?_
  intro p e s m args below meth c s₁ B hml hv
  obtain ⟨rfl, hsz, hP, hK, hD0, hN⟩ := hv
  subst hsz
  have hD := hD0.self (sz := s.heap.size)
  generalize hAe : va_A (wK A cc g0) s.heap.size = AA at hD ⊢
  have hx := B.exec
  have hb := B.bytes
  have hr := B.returns
  have hts := atoms_spec (ws := Cond.code y_K_secretOf b_K_secretOf 2 (some .long) :: wa) B.pre
  have hw : ∀ w ∈ wa, w.before _ s = true := fun w h => hts w (List.mem_cons_of_mem _ h)
  have hown : s.vm.findClass R_K = some m.cls := findClass_of_methodNamed B.named
  have hlocks := B.notSynchronized
  have hA : ∀ q : Nat, s.heap.size ≤ q → AA q := fun q h => by rw [← hAe]; exact Or.inr h
  have hS : va_S AA s.heap s.heap [] := va_S.rf
  have hl := lv_entry ([.ref (A 0), .int a0]) (n := 2) (Nat.le_of_ble_eq_true rfl)
  rw [lg_entry_eq]
  generalize (lg_sl ([.ref (A 0), .int a0]) ++ List.replicate (2 - (lg_sl ([.ref (A 0), .int a0])).length) Slot.unset).toArray = ls at hl ⊢
  have hl : lv_has ls 2 [(0, .ref (A 0)), (1, .int a0)] := hl
  unfold f_K_secretOf at hF
  refine lv_aload_n hx hb d_K_secretOf_0 rfl (lv_at hl 0 rfl) ?_
  refine va_get (D := D) (ci := 2) (v := .ref (A 2)) (C := R_K) (T := T_K) (N := 5) hx hb hts in_K hown hK hP 0 rfl rfl 1 (by decide) (hw _ ww_63) (fun _ h9 => h9) rfl d_K_secretOf_1 ?_
  refine lv_iload_n hx hb d_K_secretOf_4 rfl (lv_at hl 1 rfl) ?_
  by_cases h1 : a0 < 0 ∨ 6 ≤ Int32.toNatClampNeg a0
  · have h0 := (if_pos h1).symm.trans hF; cases h0
  have hF := (if_neg h1).symm.trans hF
  refine va_lald hx hb hK hP 2 1 rfl rfl h1 d_K_secretOf_5 ?_
  refine lv_lconst (v := 0) hx hb d_K_secretOf_6 (by decide) ?_
  refine W.lcmp hx hb d_K_secretOf_7 ?_
  refine lv_if_ne hx hb d_K_secretOf_8 (tgt := 19) (by decide) (fun h9 => ?_) (fun h9 => ?_)
  · have hF := (if_neg h9).symm.trans hF
    refine lv_aload_n hx hb d_K_secretOf_19 rfl (lv_at hl 0 rfl) ?_
    refine va_get (D := D) (ci := 2) (v := .ref (A 2)) (C := R_K) (T := T_K) (N := 5) hx hb hts in_K hown hK hP 0 rfl rfl 1 (by decide) (hw _ ww_63) (fun _ h9 => h9) rfl d_K_secretOf_20 ?_
    refine lv_iload_n hx hb d_K_secretOf_23 rfl (lv_at hl 1 rfl) ?_
    by_cases h2 : a0 < 0 ∨ 6 ≤ Int32.toNatClampNeg a0
    · have h0 := (if_pos h2).symm.trans hF; cases h0
    have hF := (if_neg h2).symm.trans hF
    refine va_lald hx hb hK hP 2 1 rfl rfl h2 d_K_secretOf_24 ?_
    cases hF
    exact W.lret hx hb hr (fun t ht hW => ⟨⟨_, _, rfl, rfl, bw_end hP hK hD ht hW⟩, hS.F ht⟩) hS.2.2 d_K_secretOf_25
  · have hF := (if_pos h9).symm.trans hF
    cases hF
set_option maxHeartbeats 4000000 in
set_option maxRecDepth 100000 in
theorem k_K_secretOf_er (l : Launch) (hl0 : l.stackTraces = false) (D : va_G) (A : Nat → Nat) (cc : Nat → ClassId) (g0 : sK) (a0 : Int32) (sz : Nat) (E0 : String) (gE : sK) (hF : f_K_secretOf g0 a0 = some (.error (E0, gE))) : vx_Met l y_K_secretOf (Cond.code y_K_secretOf b_K_secretOf 2 (some .long) :: wa) rx_K_secretOf (pwx D (wK A cc g0) (kK cc) [.ref (A 0), .int a0] sz) (va_Ql (fun _ (_ : Unit) => False) (fun _ _ => True) (va_A (wK A cc g0) sz)) (vx_X (fun u => u = gE) (fun E u t => E = E0 ∧ bw D (wK A cc) (kK cc) (va_A (wK A cc g0) sz) u t) (va_A (wK A cc g0) sz)) 1 6 (va_A (wK A cc g0) sz) := by
  refine vx_ofW (cc := b_K_secretOf) (maxL := 2) (ret := (some .long)) (by decide) rfl ?_
  intro p e s m args below meth c s₁ B hml hout hv
  obtain ⟨⟨rfl, hsz, hP, hK, hD0, hN⟩, hX, hZ⟩ := hv
  subst hsz
  have hD := hD0.self (sz := s.heap.size)
  generalize hAe : va_A (wK A cc g0) s.heap.size = AA at hD hZ ⊢
  have hx := B.exec
  have hb := B.bytes
  have hr := B.returns
  have hts := atoms_spec (ws := Cond.code y_K_secretOf b_K_secretOf 2 (some .long) :: wa) B.pre
  have hw : ∀ w ∈ wa, w.before _ s = true := fun w h => hts w (List.mem_cons_of_mem _ h)
  have hown : s.vm.findClass R_K = some m.cls := findClass_of_methodNamed B.named
  have hlocks := B.notSynchronized
  have hA : ∀ q : Nat, s.heap.size ≤ q → AA q := fun q h => by rw [← hAe]; exact Or.inr h
  have hS : va_S AA s.heap s.heap [] := va_S.rf
  have hl := lv_entry ([.ref (A 0), .int a0]) (n := 2) (Nat.le_of_ble_eq_true rfl)
  rw [lg_entry_eq]
  generalize (lg_sl ([.ref (A 0), .int a0]) ++ List.replicate (2 - (lg_sl ([.ref (A 0), .int a0])).length) Slot.unset).toArray = ls at hl ⊢
  have hl : lv_has ls 2 [(0, .ref (A 0)), (1, .int a0)] := hl
  unfold f_K_secretOf at hF
  refine lv_aload_n hx hb d_K_secretOf_0 rfl (lv_at hl 0 rfl) ?_
  refine va_get (D := D) (ci := 2) (v := .ref (A 2)) (C := R_K) (T := T_K) (N := 5) hx hb hts in_K hown hK hP 0 rfl rfl 1 (by decide) (hw _ ww_63) (fun _ h9 => h9) rfl d_K_secretOf_1 ?_
  refine lv_iload_n hx hb d_K_secretOf_4 rfl (lv_at hl 1 rfl) ?_
  by_cases h1 : a0 < 0 ∨ 6 ≤ Int32.toNatClampNeg a0
  · have h0 := (if_pos h1).symm.trans hF; cases h0
  have hF := (if_neg h1).symm.trans hF
  refine va_lald hx hb hK hP 2 1 rfl rfl h1 d_K_secretOf_5 ?_
  refine lv_lconst (v := 0) hx hb d_K_secretOf_6 (by decide) ?_
  refine W.lcmp hx hb d_K_secretOf_7 ?_
  refine lv_if_ne hx hb d_K_secretOf_8 (tgt := 19) (by decide) (fun h9 => ?_) (fun h9 => ?_)
  · have hF := (if_neg h9).symm.trans hF
    refine lv_aload_n hx hb d_K_secretOf_19 rfl (lv_at hl 0 rfl) ?_
    refine va_get (D := D) (ci := 2) (v := .ref (A 2)) (C := R_K) (T := T_K) (N := 5) hx hb hts in_K hown hK hP 0 rfl rfl 1 (by decide) (hw _ ww_63) (fun _ h9 => h9) rfl d_K_secretOf_20 ?_
    refine lv_iload_n hx hb d_K_secretOf_23 rfl (lv_at hl 1 rfl) ?_
    by_cases h2 : a0 < 0 ∨ 6 ≤ Int32.toNatClampNeg a0
    · have h0 := (if_pos h2).symm.trans hF; cases h0
    have hF := (if_neg h2).symm.trans hF
    refine va_lald hx hb hK hP 2 1 rfl rfl h2 d_K_secretOf_24 ?_
    cases hF
  · have hF := (if_pos h9).symm.trans hF
    cases hF
    exact vx_throw0 (cls := "java/lang/IllegalStateException") (names := ["java/lang/RuntimeException", "java/lang/Exception"]) (ik := 182) (ic := 184) (A := AA) hx hb hl0 hown (by decide) (by decide) (hw _ ww_398) (hw _ ww_14) (xt_hat hw hX xg_IllegalStateException xn_IllegalStateException) xo_IllegalStateException hZ.1 hZ.2 hS (hl.1.trans hml.symm) d_K_secretOf_11 d_K_secretOf_14 d_K_secretOf_15 d_K_secretOf_18 (fun x h => (hout x h).elim) (Nat.le_of_ble_eq_true rfl) (Nat.le_of_ble_eq_true rfl) (Nat.le_of_ble_eq_true rfl) (Nat.le_of_ble_eq_true rfl) hlocks (fun t ha hz hk => ⟨_, rfl, ⟨rfl, xt_bw hP hK hD hk ha⟩, xt_F hS hz hk⟩) hS.2.2 (Nat.le_of_ble_eq_true rfl) (Nat.le_of_ble_eq_true rfl)
def f_K_secret (g0 : sK) (a0 : Int32) (a1 : Int32) : Option (Except (String × sK) (Int64 × sK)) := Option.bind (f_K_needSlot a0) (fun x1 => match x1 with | .error E9 => some (.error (E9, g0)) | .ok _ => (Option.bind (f_S_isUnit (Int32.toInt64 a1)) (fun r4 => Option.bind (f_K_needArgument r4) (fun x5 => match x5 with | .error E9 => some (.error (E9, g0)) | .ok _ => (Option.bind (f_C_multiple (Int32.toInt64 a1) 4411025356) (fun r8 => Option.bind (f_K_fill g0 a0 r8 (Int32.toInt64 a1)) (fun t11 => match t11 with | (r10, g9) => (some (.ok (r10, g9))))))))))
abbrev rm_K_secret : Room := { frames := 4, cells := 0, slots := 0, locals := 120 }
abbrev rx_K_secret : Room := { frames := 7, cells := 1, slots := 6, locals := 120 }
set_option maxHeartbeats 4000000 in
set_option maxRecDepth 100000 in
theorem k_K_secret_ok (l : Launch) (D : va_G) (A : Nat → Nat) (cc : Nat → ClassId) (g0 : sK) (a0 : Int32) (a1 : Int32) (sz : Nat) (res : (Int64 × sK)) (hF : f_K_secret g0 a0 a1 = some (.ok res)) : Met l y_K_secret (Cond.code y_K_secret b_K_secret 3 (some .long) :: wa) rm_K_secret (pw D (wK A cc g0) (kK cc) [.ref (A 0), .int a0, .int a1] sz) (va_Ql (fun r u => (r, u) = res) (bw D (wK A cc) (kK cc) (va_A (wK A cc g0) sz)) (va_A (wK A cc g0) sz)) 0 0 (va_A (wK A cc g0) sz) := by
  refine Met.ofW (cc := b_K_secret) (maxL := 3) (ret := (some .long)) (by decide) rfl ?_
  intro p e s m args below meth c s₁ B hml hv
  obtain ⟨rfl, hsz, hP, hK, hD0, hN⟩ := hv
  subst hsz
  have hD := hD0.self (sz := s.heap.size)
  generalize hAe : va_A (wK A cc g0) s.heap.size = AA at hD ⊢
  have hx := B.exec
  have hb := B.bytes
  have hr := B.returns
  have hts := atoms_spec (ws := Cond.code y_K_secret b_K_secret 3 (some .long) :: wa) B.pre
  have hw : ∀ w ∈ wa, w.before _ s = true := fun w h => hts w (List.mem_cons_of_mem _ h)
  have hown : s.vm.findClass R_K = some m.cls := findClass_of_methodNamed B.named
  have hlocks := B.notSynchronized
  have hA : ∀ q : Nat, s.heap.size ≤ q → AA q := fun q h => by rw [← hAe]; exact Or.inr h
  have hS : va_S AA s.heap s.heap [] := va_S.rf
  have hl := lv_entry ([.ref (A 0), .int a0, .int a1]) (n := 3) (Nat.le_of_ble_eq_true rfl)
  rw [lg_entry_eq]
  generalize (lg_sl ([.ref (A 0), .int a0, .int a1]) ++ List.replicate (3 - (lg_sl ([.ref (A 0), .int a0, .int a1])).length) Slot.unset).toArray = ls at hl ⊢
  have hl : lv_has ls 3 [(0, .ref (A 0)), (1, .int a0), (2, .int a1)] := hl
  unfold f_K_secret at hF
  refine lv_iload_n hx hb d_K_secret_0 rfl (lv_at hl 1 rfl) ?_
  obtain ⟨x1, e_x1, hF⟩ := Option.bind_eq_some_iff.mp hF
  rcases x1 with E2 | n3
  · cases hF
  refine va_csv (va_runS (As := [.int a0]) (rest := []) ⟨hx, hb, hml, hown, hts⟩ (k_K_needSlot_ok l a0 n3 e_x1) (va_cwS 1 hts (ga_S ww_225 ww_226 ww_1 ww_227) rfl rfl rfl (by decide +kernel) ⟨by decide, by decide⟩) (pcs_pre hN) rfl rfl hl.1 rfl (lv_room (Nat.le_of_ble_eq_true rfl)) d_K_secret_1 ⟨Nat.zero_le _, Nat.zero_le _⟩).run (fun _ => ?_)
  refine lv_iload_n hx hb d_K_secret_4 rfl (lv_at hl 2 rfl) ?_
  refine lv_i2l (v := Int32.toInt64 a1) hx hb d_K_secret_5 rfl ?_
  obtain ⟨r4, e_r4, hF⟩ := Option.bind_eq_some_iff.mp hF
  refine vp_callSi (va_runS (As := [.long (Int32.toInt64 a1)]) (rest := []) ⟨hx, hb, hml, hown, hts⟩ (k_S_isUnit l (Int32.toInt64 a1) r4 e_r4) (va_cwS 1 hts (ga_S ww_293 ww_294 ww_9 ww_295) rfl rfl rfl (by decide +kernel) ⟨by decide, by decide⟩) (pcs_pre hN) rfl rfl hl.1 rfl (lv_room (Nat.le_of_ble_eq_true rfl)) d_K_secret_6 ⟨Nat.zero_le _, Nat.zero_le _⟩).run (fun z9 hz9 => ?_)
  obtain rfl : r4 = z9 := hz9.symm
  obtain ⟨x5, e_x5, hF⟩ := Option.bind_eq_some_iff.mp hF
  rcases x5 with E6 | n7
  · cases hF
  refine va_csv (va_runS (As := [.int r4]) (rest := []) ⟨hx, hb, hml, hown, hts⟩ (k_K_needArgument_ok l r4 n7 e_x5) (va_cwS 1 hts (ga_S ww_296 ww_297 ww_1 ww_298) rfl rfl rfl (by decide +kernel) ⟨by decide, by decide⟩) (pcs_pre hN) rfl rfl hl.1 rfl (lv_room (Nat.le_of_ble_eq_true rfl)) d_K_secret_9 ⟨Nat.zero_le _, Nat.zero_le _⟩).run (fun _ => ?_)
  refine lv_aload_n hx hb d_K_secret_12 rfl (lv_at hl 0 rfl) ?_
  refine lv_iload_n hx hb d_K_secret_13 rfl (lv_at hl 1 rfl) ?_
  refine lv_iload_n hx hb d_K_secret_14 rfl (lv_at hl 2 rfl) ?_
  refine lv_i2l (v := Int32.toInt64 a1) hx hb d_K_secret_15 rfl ?_
  refine lv_ldc2 (v := 4411025356) hx hb hown (hw _ ww_314) d_K_secret_16 ?_
  obtain ⟨r8, e_r8, hF⟩ := Option.bind_eq_some_iff.mp hF
  refine vp_callSl (va_runS (As := [.long (Int32.toInt64 a1), .long 4411025356]) (rest := [.int a0, .ref (A 0)]) ⟨hx, hb, hml, hown, hts⟩ (k_C_multiple l (Int32.toInt64 a1) 4411025356 r8 e_r8) (va_cwS 2 hts (ga_S ww_315 ww_152 ww_11 ww_153) rfl rfl rfl (by decide +kernel) ⟨by decide, by decide⟩) (pcs_pre hN) rfl rfl hl.1 rfl (lv_room (Nat.le_of_ble_eq_true rfl)) d_K_secret_19 ⟨Nat.zero_le _, Nat.zero_le _⟩).run (fun z9 hz9 => ?_)
  obtain rfl : r8 = z9 := hz9.symm
  refine lv_iload_n hx hb d_K_secret_22 rfl (lv_at hl 2 rfl) ?_
  refine lv_i2l (v := Int32.toInt64 a1) hx hb d_K_secret_23 rfl ?_
  obtain ⟨⟨r10, g9⟩, e_g9, hF⟩ := Option.bind_eq_some_iff.mp hF
  have hFc := va_free (wc := wK A cc g0) hD hS hA [0, 1, 2, 3, 4, 5, 6, 7, 8, 9] rfl
  refine va_calll (va_runV (As := [.int a0, .long r8, .long (Int32.toInt64 a1)]) (rest := []) ⟨hx, hb, hml, hown, hts⟩ (k_K_fill l D A cc g0 a0 r8 (Int32.toInt64 a1) _ (r10, g9) e_g9) (cwV 3 hts (ga_V ww_316 ww_318 wp_4 ww_1 ww_319) rfl rfl rfl (by decide +kernel) ⟨by decide, by decide⟩) (pw_pre (q0 := 0) (ci := 2) hP hK hD hN rfl rfl) rfl rfl hl.1 rfl (lv_room (Nat.le_of_ble_eq_true rfl)) d_K_secret_24 ⟨Nat.zero_le _, Nat.zero_le _⟩) hS (fun q _ h => hFc q h) hFc (fun r9 u9 t H locs ht hvm hp hB hz1 hk1 hS => ?_)
  obtain ⟨rfl, rfl⟩ := Prod.mk.inj hp.symm
  obtain ⟨hP, hD⟩ := bw_back hB ht hFc
  cases hF
  exact W.lret hx hb hr (fun t ht hW => ⟨⟨_, _, rfl, rfl, bw_end hP hK hD ht hW⟩, hS.F ht⟩) hS.2.2 d_K_secret_27
set_option maxHeartbeats 4000000 in
set_option maxRecDepth 100000 in
theorem k_K_secret_er (l : Launch) (hl0 : l.stackTraces = false) (D : va_G) (A : Nat → Nat) (cc : Nat → ClassId) (g0 : sK) (a0 : Int32) (a1 : Int32) (sz : Nat) (E0 : String) (gE : sK) (hF : f_K_secret g0 a0 a1 = some (.error (E0, gE))) : vx_Met l y_K_secret (Cond.code y_K_secret b_K_secret 3 (some .long) :: wa) rx_K_secret (pwx D (wK A cc g0) (kK cc) [.ref (A 0), .int a0, .int a1] sz) (va_Ql (fun _ (_ : Unit) => False) (fun _ _ => True) (va_A (wK A cc g0) sz)) (vx_X (fun u => u = gE) (fun E u t => E = E0 ∧ bw D (wK A cc) (kK cc) (va_A (wK A cc g0) sz) u t) (va_A (wK A cc g0) sz)) 1 6 (va_A (wK A cc g0) sz) := by
  refine vx_ofW (cc := b_K_secret) (maxL := 3) (ret := (some .long)) (by decide) rfl ?_
  intro p e s m args below meth c s₁ B hml hout hv
  obtain ⟨⟨rfl, hsz, hP, hK, hD0, hN⟩, hX, hZ⟩ := hv
  subst hsz
  have hD := hD0.self (sz := s.heap.size)
  generalize hAe : va_A (wK A cc g0) s.heap.size = AA at hD hZ ⊢
  have hx := B.exec
  have hb := B.bytes
  have hr := B.returns
  have hts := atoms_spec (ws := Cond.code y_K_secret b_K_secret 3 (some .long) :: wa) B.pre
  have hw : ∀ w ∈ wa, w.before _ s = true := fun w h => hts w (List.mem_cons_of_mem _ h)
  have hown : s.vm.findClass R_K = some m.cls := findClass_of_methodNamed B.named
  have hlocks := B.notSynchronized
  have hA : ∀ q : Nat, s.heap.size ≤ q → AA q := fun q h => by rw [← hAe]; exact Or.inr h
  have hS : va_S AA s.heap s.heap [] := va_S.rf
  have hl := lv_entry ([.ref (A 0), .int a0, .int a1]) (n := 3) (Nat.le_of_ble_eq_true rfl)
  rw [lg_entry_eq]
  generalize (lg_sl ([.ref (A 0), .int a0, .int a1]) ++ List.replicate (3 - (lg_sl ([.ref (A 0), .int a0, .int a1])).length) Slot.unset).toArray = ls at hl ⊢
  have hl : lv_has ls 3 [(0, .ref (A 0)), (1, .int a0), (2, .int a1)] := hl
  unfold f_K_secret at hF
  refine lv_iload_n hx hb d_K_secret_0 rfl (lv_at hl 1 rfl) ?_
  obtain ⟨x1, e_x1, hF⟩ := Option.bind_eq_some_iff.mp hF
  rcases x1 with E2 | n3
  · cases hF
    have hFc : ∀ q, fr (Array.size _) q → AA q := fun q h => hA q (Nat.le_trans hS.1 h)
    refine vx_callv (vx_runS (As := [.int a0]) (rest := []) ⟨hx, hb, hml, hown, hts⟩ (k_K_needSlot_er l hl0 a0 _ _ e_x1) (va_cwS 1 hts (ga_S ww_225 ww_226 ww_1 ww_227) rfl rfl rfl (by decide +kernel) ⟨by decide, by decide⟩) (pcx_pre hN hX hZ hS hA) rfl rfl hl.1 rfl (lv_room (Nat.le_of_ble_eq_true rfl)) d_K_secret_1 ⟨Nat.le_of_ble_eq_true rfl, Nat.le_of_ble_eq_true rfl⟩) hS (fun q _ h => hFc q h) hFc (fun q _ h => hFc q h) (fun E ce q9 u t H1 locs ht hvm hpx hBX hz hk hS hce hcv hcl => ?_) (fun u t H1 locs _ _ hp _ _ _ _ => hp.elim)
    obtain rfl := hBX
    have hk : ∀ q : Nat, q < _ → H1[q]? = _ := fun q h => hk q h (fun z => Nat.lt_irrefl _ (Nat.lt_of_lt_of_le h z))
    have hP := xt_P hP hk
    exact vx_out (fun x h => (hout x h).elim) hlocks hce hcv hcl (fun t9 ht9 ha9 => ⟨_, rfl, ⟨rfl, by rw [ht9]; exact hP, va_K.moved ha9 hK, hD⟩, hS.F ht9⟩) hS.2.2 (Nat.le_of_ble_eq_true rfl) (Nat.le_of_ble_eq_true rfl)
  refine va_csv (va_runS (As := [.int a0]) (rest := []) ⟨hx, hb, hml, hown, hts⟩ (k_K_needSlot_ok l a0 n3 e_x1) (va_cwS 1 hts (ga_S ww_225 ww_226 ww_1 ww_227) rfl rfl rfl (by decide +kernel) ⟨by decide, by decide⟩) (pcs_pre hN) rfl rfl hl.1 rfl (lv_room (Nat.le_of_ble_eq_true rfl)) d_K_secret_1 ⟨Nat.zero_le _, Nat.zero_le _⟩).run (fun _ => ?_)
  refine lv_iload_n hx hb d_K_secret_4 rfl (lv_at hl 2 rfl) ?_
  refine lv_i2l (v := Int32.toInt64 a1) hx hb d_K_secret_5 rfl ?_
  obtain ⟨r4, e_r4, hF⟩ := Option.bind_eq_some_iff.mp hF
  refine vp_callSi (va_runS (As := [.long (Int32.toInt64 a1)]) (rest := []) ⟨hx, hb, hml, hown, hts⟩ (k_S_isUnit l (Int32.toInt64 a1) r4 e_r4) (va_cwS 1 hts (ga_S ww_293 ww_294 ww_9 ww_295) rfl rfl rfl (by decide +kernel) ⟨by decide, by decide⟩) (pcs_pre hN) rfl rfl hl.1 rfl (lv_room (Nat.le_of_ble_eq_true rfl)) d_K_secret_6 ⟨Nat.zero_le _, Nat.zero_le _⟩).run (fun z9 hz9 => ?_)
  obtain rfl : r4 = z9 := hz9.symm
  obtain ⟨x5, e_x5, hF⟩ := Option.bind_eq_some_iff.mp hF
  rcases x5 with E6 | n7
  · cases hF
    have hFc : ∀ q, fr (Array.size _) q → AA q := fun q h => hA q (Nat.le_trans hS.1 h)
    refine vx_callv (vx_runS (As := [.int r4]) (rest := []) ⟨hx, hb, hml, hown, hts⟩ (k_K_needArgument_er l hl0 r4 _ _ e_x5) (va_cwS 1 hts (ga_S ww_296 ww_297 ww_1 ww_298) rfl rfl rfl (by decide +kernel) ⟨by decide, by decide⟩) (pcx_pre hN hX hZ hS hA) rfl rfl hl.1 rfl (lv_room (Nat.le_of_ble_eq_true rfl)) d_K_secret_9 ⟨Nat.le_of_ble_eq_true rfl, Nat.le_of_ble_eq_true rfl⟩) hS (fun q _ h => hFc q h) hFc (fun q _ h => hFc q h) (fun E ce q9 u t H1 locs ht hvm hpx hBX hz hk hS hce hcv hcl => ?_) (fun u t H1 locs _ _ hp _ _ _ _ => hp.elim)
    obtain rfl := hBX
    have hk : ∀ q : Nat, q < _ → H1[q]? = _ := fun q h => hk q h (fun z => Nat.lt_irrefl _ (Nat.lt_of_lt_of_le h z))
    have hP := xt_P hP hk
    exact vx_out (fun x h => (hout x h).elim) hlocks hce hcv hcl (fun t9 ht9 ha9 => ⟨_, rfl, ⟨rfl, by rw [ht9]; exact hP, va_K.moved ha9 hK, hD⟩, hS.F ht9⟩) hS.2.2 (Nat.le_of_ble_eq_true rfl) (Nat.le_of_ble_eq_true rfl)
  refine va_csv (va_runS (As := [.int r4]) (rest := []) ⟨hx, hb, hml, hown, hts⟩ (k_K_needArgument_ok l r4 n7 e_x5) (va_cwS 1 hts (ga_S ww_296 ww_297 ww_1 ww_298) rfl rfl rfl (by decide +kernel) ⟨by decide, by decide⟩) (pcs_pre hN) rfl rfl hl.1 rfl (lv_room (Nat.le_of_ble_eq_true rfl)) d_K_secret_9 ⟨Nat.zero_le _, Nat.zero_le _⟩).run (fun _ => ?_)
  refine lv_aload_n hx hb d_K_secret_12 rfl (lv_at hl 0 rfl) ?_
  refine lv_iload_n hx hb d_K_secret_13 rfl (lv_at hl 1 rfl) ?_
  refine lv_iload_n hx hb d_K_secret_14 rfl (lv_at hl 2 rfl) ?_
  refine lv_i2l (v := Int32.toInt64 a1) hx hb d_K_secret_15 rfl ?_
  refine lv_ldc2 (v := 4411025356) hx hb hown (hw _ ww_314) d_K_secret_16 ?_
  obtain ⟨r8, e_r8, hF⟩ := Option.bind_eq_some_iff.mp hF
  refine vp_callSl (va_runS (As := [.long (Int32.toInt64 a1), .long 4411025356]) (rest := [.int a0, .ref (A 0)]) ⟨hx, hb, hml, hown, hts⟩ (k_C_multiple l (Int32.toInt64 a1) 4411025356 r8 e_r8) (va_cwS 2 hts (ga_S ww_315 ww_152 ww_11 ww_153) rfl rfl rfl (by decide +kernel) ⟨by decide, by decide⟩) (pcs_pre hN) rfl rfl hl.1 rfl (lv_room (Nat.le_of_ble_eq_true rfl)) d_K_secret_19 ⟨Nat.zero_le _, Nat.zero_le _⟩).run (fun z9 hz9 => ?_)
  obtain rfl : r8 = z9 := hz9.symm
  refine lv_iload_n hx hb d_K_secret_22 rfl (lv_at hl 2 rfl) ?_
  refine lv_i2l (v := Int32.toInt64 a1) hx hb d_K_secret_23 rfl ?_
  obtain ⟨⟨r10, g9⟩, e_g9, hF⟩ := Option.bind_eq_some_iff.mp hF
  have hFc := va_free (wc := wK A cc g0) hD hS hA [0, 1, 2, 3, 4, 5, 6, 7, 8, 9] rfl
  refine va_calll (va_runV (As := [.int a0, .long r8, .long (Int32.toInt64 a1)]) (rest := []) ⟨hx, hb, hml, hown, hts⟩ (k_K_fill l D A cc g0 a0 r8 (Int32.toInt64 a1) _ (r10, g9) e_g9) (cwV 3 hts (ga_V ww_316 ww_318 wp_4 ww_1 ww_319) rfl rfl rfl (by decide +kernel) ⟨by decide, by decide⟩) (pw_pre (q0 := 0) (ci := 2) hP hK hD hN rfl rfl) rfl rfl hl.1 rfl (lv_room (Nat.le_of_ble_eq_true rfl)) d_K_secret_24 ⟨Nat.zero_le _, Nat.zero_le _⟩) hS (fun q _ h => hFc q h) hFc (fun r9 u9 t H locs ht hvm hp hB hz1 hk1 hS => ?_)
  obtain ⟨rfl, rfl⟩ := Prod.mk.inj hp.symm
  obtain ⟨hP, hD⟩ := bw_back hB ht hFc
  cases hF
def f_K_open (g0 : sK) (a0 : Int32) (a1 : Int64) : Option (Except (String × sK) sK) := Option.bind (f_K_needSlot a0) (fun x1 => match x1 with | .error E9 => some (.error (E9, g0)) | .ok _ => (Option.bind (f_C_fromCode a1) (fun r4 => Option.bind (if (lg_cmp r4 0) = 0 then (some (0) : Option (Int32)) else (some (1))) (fun j5 => Option.bind (f_K_needArgument j5) (fun x9 => match x9 with | .error E9 => some (.error (E9, g0)) | .ok _ => (Option.bind (f_K_fill g0 a0 r4 0) (fun t14 => match t14 with | (r13, g12) => (some (.ok g12)))))))))
abbrev rm_K_open : Room := { frames := 4, cells := 0, slots := 0, locals := 93 }
abbrev rx_K_open : Room := { frames := 7, cells := 1, slots := 6, locals := 110 }
set_option maxHeartbeats 4000000 in
set_option maxRecDepth 100000 in
theorem k_K_open_ok (l : Launch) (D : va_G) (A : Nat → Nat) (cc : Nat → ClassId) (g0 : sK) (a0 : Int32) (a1 : Int64) (sz : Nat) (res : sK) (hF : f_K_open g0 a0 a1 = some (.ok res)) : Met l y_K_open (Cond.code y_K_open b_K_open 6 none :: wa) rm_K_open (pw D (wK A cc g0) (kK cc) [.ref (A 0), .int a0, .long a1] sz) (va_Qv (fun u => u = res) (bw D (wK A cc) (kK cc) (va_A (wK A cc g0) sz)) (va_A (wK A cc g0) sz)) 0 0 (va_A (wK A cc g0) sz) := by
  refine Met.ofW (cc := b_K_open) (maxL := 6) (ret := none) (by decide) rfl ?_
  intro p e s m args below meth c s₁ B hml hv
  obtain ⟨rfl, hsz, hP, hK, hD0, hN⟩ := hv
  subst hsz
  have hD := hD0.self (sz := s.heap.size)
  generalize hAe : va_A (wK A cc g0) s.heap.size = AA at hD ⊢
  have hx := B.exec
  have hb := B.bytes
  have hr := B.returns
  have hts := atoms_spec (ws := Cond.code y_K_open b_K_open 6 none :: wa) B.pre
  have hw : ∀ w ∈ wa, w.before _ s = true := fun w h => hts w (List.mem_cons_of_mem _ h)
  have hown : s.vm.findClass R_K = some m.cls := findClass_of_methodNamed B.named
  have hlocks := B.notSynchronized
  have hA : ∀ q : Nat, s.heap.size ≤ q → AA q := fun q h => by rw [← hAe]; exact Or.inr h
  have hS : va_S AA s.heap s.heap [] := va_S.rf
  have hl := lv_entry ([.ref (A 0), .int a0, .long a1]) (n := 6) (Nat.le_of_ble_eq_true rfl)
  rw [lg_entry_eq]
  generalize (lg_sl ([.ref (A 0), .int a0, .long a1]) ++ List.replicate (6 - (lg_sl ([.ref (A 0), .int a0, .long a1])).length) Slot.unset).toArray = ls at hl ⊢
  have hl : lv_has ls 6 [(0, .ref (A 0)), (1, .int a0), (2, .long a1)] := hl
  unfold f_K_open at hF
  refine lv_iload_n hx hb d_K_open_0 rfl (lv_at hl 1 rfl) ?_
  obtain ⟨x1, e_x1, hF⟩ := Option.bind_eq_some_iff.mp hF
  rcases x1 with E2 | n3
  · cases hF
  refine va_csv (va_runS (As := [.int a0]) (rest := []) ⟨hx, hb, hml, hown, hts⟩ (k_K_needSlot_ok l a0 n3 e_x1) (va_cwS 1 hts (ga_S ww_225 ww_226 ww_1 ww_227) rfl rfl rfl (by decide +kernel) ⟨by decide, by decide⟩) (pcs_pre hN) rfl rfl hl.1 rfl (lv_room (Nat.le_of_ble_eq_true rfl)) d_K_open_1 ⟨Nat.zero_le _, Nat.zero_le _⟩).run (fun _ => ?_)
  refine lv_lload_n hx hb d_K_open_4 rfl (lv_at hl 2 rfl) ?_
  obtain ⟨r4, e_r4, hF⟩ := Option.bind_eq_some_iff.mp hF
  refine vp_callSl (va_runS (As := [.long a1]) (rest := []) ⟨hx, hb, hml, hown, hts⟩ (k_C_fromCode l a1 r4 e_r4) (va_cwS 1 hts (ga_S ww_327 ww_328 ww_11 ww_329) rfl rfl rfl (by decide +kernel) ⟨by decide, by decide⟩) (pcs_pre hN) rfl rfl hl.1 rfl (lv_room (Nat.le_of_ble_eq_true rfl)) d_K_open_5 ⟨Nat.zero_le _, Nat.zero_le _⟩).run (fun z9 hz9 => ?_)
  obtain rfl : r4 = z9 := hz9.symm
  refine lv_lstore hx hb d_K_open_8 hl (by decide) (lv' := [(4, .long r4), (0, .ref (A 0)), (1, .int a0), (2, .long a1)]) rfl (fun ls hl => ?_)
  refine lv_lload hx hb d_K_open_10 (lv_at hl 0 rfl) ?_
  refine lv_lconst (v := 0) hx hb d_K_open_12 (by decide) ?_
  refine W.lcmp hx hb d_K_open_13 ?_
  obtain ⟨j5, q7, hF⟩ := Option.bind_eq_some_iff.mp hF
  have k6 : ∀ (H : Heap) (locs : List Loc) (ls : Array Slot), va_P D vwC (wK A cc g0) H → va_D AA (wK A cc g0) → va_S AA s.heap H locs → lv_has ls 6 [(4, .long r4), (0, .ref (A 0)), (1, .int a0)] → W p l e rm_K_open s m ([Value.ref (A 0), Value.int a0, Value.long a1] : List Value).toArray below meth c H locs 0 0 (MQ below (va_Qv (fun u => u = res) (bw D (wK A cc) (kK cc) AA) AA) ([Value.ref (A 0), Value.int a0, Value.long a1] : List Value).toArray s 0 0 AA) (F0 m 22 ls [.int j5]) := by
    intro H locs ls hP hD hS hl
    obtain ⟨x9, e_x9, hF⟩ := Option.bind_eq_some_iff.mp hF
    rcases x9 with E10 | n11
    · cases hF
    refine va_csv (va_runS (As := [.int j5]) (rest := []) ⟨hx, hb, hml, hown, hts⟩ (k_K_needArgument_ok l j5 n11 e_x9) (va_cwS 1 hts (ga_S ww_296 ww_297 ww_1 ww_298) rfl rfl rfl (by decide +kernel) ⟨by decide, by decide⟩) (pcs_pre hN) rfl rfl hl.1 rfl (lv_room (Nat.le_of_ble_eq_true rfl)) d_K_open_22 ⟨Nat.zero_le _, Nat.zero_le _⟩).run (fun _ => ?_)
    refine lv_aload_n hx hb d_K_open_25 rfl (lv_at hl 1 rfl) ?_
    refine lv_iload_n hx hb d_K_open_26 rfl (lv_at hl 2 rfl) ?_
    refine lv_lload hx hb d_K_open_27 (lv_at hl 0 rfl) ?_
    refine lv_lconst (v := 0) hx hb d_K_open_29 (by decide) ?_
    obtain ⟨⟨r13, g12⟩, e_g12, hF⟩ := Option.bind_eq_some_iff.mp hF
    have hFc := va_free (wc := wK A cc g0) hD hS hA [0, 1, 2, 3, 4, 5, 6, 7, 8, 9] rfl
    refine va_calll (va_runV (As := [.int a0, .long r4, .long 0]) (rest := []) ⟨hx, hb, hml, hown, hts⟩ (k_K_fill l D A cc g0 a0 r4 0 _ (r13, g12) e_g12) (cwV 3 hts (ga_V ww_316 ww_318 wp_4 ww_1 ww_319) rfl rfl rfl (by decide +kernel) ⟨by decide, by decide⟩) (pw_pre (q0 := 0) (ci := 2) hP hK hD hN rfl rfl) rfl rfl hl.1 rfl (lv_room (Nat.le_of_ble_eq_true rfl)) d_K_open_30 ⟨Nat.zero_le _, Nat.zero_le _⟩) hS (fun q _ h => hFc q h) hFc (fun r9 u9 t H locs ht hvm hp hB hz1 hk1 hS => ?_)
    obtain ⟨rfl, rfl⟩ := Prod.mk.inj hp.symm
    obtain ⟨hP, hD⟩ := bw_back hB ht hFc
    refine lv_pop2_2 hx hb d_K_open_33 rfl ?_
    cases hF
    exact W.vret hx hb hr (fun t ht hW => ⟨⟨_, rfl, rfl, bw_end hP hK hD ht hW⟩, hS.F ht⟩) hS.2.2 d_K_open_34
  clear hF
  have hF := q7
  refine lv_if_eq hx hb d_K_open_14 (tgt := 21) (by decide) (fun h9 => ?_) (fun h9 => ?_)
  · have hF := (if_pos h9).symm.trans hF
    refine lv_iconst (v := 0) hx hb d_K_open_21 (by decide) ?_
    obtain rfl := Option.some.inj hF
    exact k6 _ _ ls hP hD hS (lv_sub hl [0, 1, 2] rfl)
  · have hF := (if_neg h9).symm.trans hF
    refine lv_iconst (v := 1) hx hb d_K_open_17 (by decide) ?_
    refine lv_goto hx hb d_K_open_18 (tgt := 22) (by decide) ?_
    obtain rfl := Option.some.inj hF
    exact k6 _ _ ls hP hD hS (lv_sub hl [0, 1, 2] rfl)
set_option maxHeartbeats 4000000 in
set_option maxRecDepth 100000 in
theorem k_K_open_er (l : Launch) (hl0 : l.stackTraces = false) (D : va_G) (A : Nat → Nat) (cc : Nat → ClassId) (g0 : sK) (a0 : Int32) (a1 : Int64) (sz : Nat) (E0 : String) (gE : sK) (hF : f_K_open g0 a0 a1 = some (.error (E0, gE))) : vx_Met l y_K_open (Cond.code y_K_open b_K_open 6 none :: wa) rx_K_open (pwx D (wK A cc g0) (kK cc) [.ref (A 0), .int a0, .long a1] sz) (va_Qv (fun _ : Unit => False) (fun _ _ => True) (va_A (wK A cc g0) sz)) (vx_X (fun u => u = gE) (fun E u t => E = E0 ∧ bw D (wK A cc) (kK cc) (va_A (wK A cc g0) sz) u t) (va_A (wK A cc g0) sz)) 1 6 (va_A (wK A cc g0) sz) := by
  refine vx_ofW (cc := b_K_open) (maxL := 6) (ret := none) (by decide) rfl ?_
  intro p e s m args below meth c s₁ B hml hout hv
  obtain ⟨⟨rfl, hsz, hP, hK, hD0, hN⟩, hX, hZ⟩ := hv
  subst hsz
  have hD := hD0.self (sz := s.heap.size)
  generalize hAe : va_A (wK A cc g0) s.heap.size = AA at hD hZ ⊢
  have hx := B.exec
  have hb := B.bytes
  have hr := B.returns
  have hts := atoms_spec (ws := Cond.code y_K_open b_K_open 6 none :: wa) B.pre
  have hw : ∀ w ∈ wa, w.before _ s = true := fun w h => hts w (List.mem_cons_of_mem _ h)
  have hown : s.vm.findClass R_K = some m.cls := findClass_of_methodNamed B.named
  have hlocks := B.notSynchronized
  have hA : ∀ q : Nat, s.heap.size ≤ q → AA q := fun q h => by rw [← hAe]; exact Or.inr h
  have hS : va_S AA s.heap s.heap [] := va_S.rf
  have hl := lv_entry ([.ref (A 0), .int a0, .long a1]) (n := 6) (Nat.le_of_ble_eq_true rfl)
  rw [lg_entry_eq]
  generalize (lg_sl ([.ref (A 0), .int a0, .long a1]) ++ List.replicate (6 - (lg_sl ([.ref (A 0), .int a0, .long a1])).length) Slot.unset).toArray = ls at hl ⊢
  have hl : lv_has ls 6 [(0, .ref (A 0)), (1, .int a0), (2, .long a1)] := hl
  unfold f_K_open at hF
  refine lv_iload_n hx hb d_K_open_0 rfl (lv_at hl 1 rfl) ?_
  obtain ⟨x1, e_x1, hF⟩ := Option.bind_eq_some_iff.mp hF
  rcases x1 with E2 | n3
  · cases hF
    have hFc : ∀ q, fr (Array.size _) q → AA q := fun q h => hA q (Nat.le_trans hS.1 h)
    refine vx_callv (vx_runS (As := [.int a0]) (rest := []) ⟨hx, hb, hml, hown, hts⟩ (k_K_needSlot_er l hl0 a0 _ _ e_x1) (va_cwS 1 hts (ga_S ww_225 ww_226 ww_1 ww_227) rfl rfl rfl (by decide +kernel) ⟨by decide, by decide⟩) (pcx_pre hN hX hZ hS hA) rfl rfl hl.1 rfl (lv_room (Nat.le_of_ble_eq_true rfl)) d_K_open_1 ⟨Nat.le_of_ble_eq_true rfl, Nat.le_of_ble_eq_true rfl⟩) hS (fun q _ h => hFc q h) hFc (fun q _ h => hFc q h) (fun E ce q9 u t H1 locs ht hvm hpx hBX hz hk hS hce hcv hcl => ?_) (fun u t H1 locs _ _ hp _ _ _ _ => hp.elim)
    obtain rfl := hBX
    have hk : ∀ q : Nat, q < _ → H1[q]? = _ := fun q h => hk q h (fun z => Nat.lt_irrefl _ (Nat.lt_of_lt_of_le h z))
    have hP := xt_P hP hk
    exact vx_out (fun x h => (hout x h).elim) hlocks hce hcv hcl (fun t9 ht9 ha9 => ⟨_, rfl, ⟨rfl, by rw [ht9]; exact hP, va_K.moved ha9 hK, hD⟩, hS.F ht9⟩) hS.2.2 (Nat.le_of_ble_eq_true rfl) (Nat.le_of_ble_eq_true rfl)
  refine va_csv (va_runS (As := [.int a0]) (rest := []) ⟨hx, hb, hml, hown, hts⟩ (k_K_needSlot_ok l a0 n3 e_x1) (va_cwS 1 hts (ga_S ww_225 ww_226 ww_1 ww_227) rfl rfl rfl (by decide +kernel) ⟨by decide, by decide⟩) (pcs_pre hN) rfl rfl hl.1 rfl (lv_room (Nat.le_of_ble_eq_true rfl)) d_K_open_1 ⟨Nat.zero_le _, Nat.zero_le _⟩).run (fun _ => ?_)
  refine lv_lload_n hx hb d_K_open_4 rfl (lv_at hl 2 rfl) ?_
  obtain ⟨r4, e_r4, hF⟩ := Option.bind_eq_some_iff.mp hF
  refine vp_callSl (va_runS (As := [.long a1]) (rest := []) ⟨hx, hb, hml, hown, hts⟩ (k_C_fromCode l a1 r4 e_r4) (va_cwS 1 hts (ga_S ww_327 ww_328 ww_11 ww_329) rfl rfl rfl (by decide +kernel) ⟨by decide, by decide⟩) (pcs_pre hN) rfl rfl hl.1 rfl (lv_room (Nat.le_of_ble_eq_true rfl)) d_K_open_5 ⟨Nat.zero_le _, Nat.zero_le _⟩).run (fun z9 hz9 => ?_)
  obtain rfl : r4 = z9 := hz9.symm
  refine lv_lstore hx hb d_K_open_8 hl (by decide) (lv' := [(4, .long r4), (0, .ref (A 0)), (1, .int a0), (2, .long a1)]) rfl (fun ls hl => ?_)
  refine lv_lload hx hb d_K_open_10 (lv_at hl 0 rfl) ?_
  refine lv_lconst (v := 0) hx hb d_K_open_12 (by decide) ?_
  refine W.lcmp hx hb d_K_open_13 ?_
  obtain ⟨j5, q7, hF⟩ := Option.bind_eq_some_iff.mp hF
  have k6 : ∀ (H : Heap) (locs : List Loc) (ls : Array Slot), va_P D vwC (wK A cc g0) H → va_D AA (wK A cc g0) → va_S AA s.heap H locs → lv_has ls 6 [(4, .long r4), (0, .ref (A 0)), (1, .int a0)] → W p l e rx_K_open s m ([Value.ref (A 0), Value.int a0, Value.long a1] : List Value).toArray below meth c H locs 0 0 (vx_MQ below (va_Qv (fun _ : Unit => False) (fun _ _ => True) AA) (vx_X (fun u => u = gE) (fun E u t => E = E0 ∧ bw D (wK A cc) (kK cc) AA u t) AA) ([Value.ref (A 0), Value.int a0, Value.long a1] : List Value).toArray s 1 6 AA) (F0 m 22 ls [.int j5]) := by
    intro H locs ls hP hD hS hl
    obtain ⟨x9, e_x9, hF⟩ := Option.bind_eq_some_iff.mp hF
    rcases x9 with E10 | n11
    · cases hF
      have hFc : ∀ q, fr (Array.size _) q → AA q := fun q h => hA q (Nat.le_trans hS.1 h)
      refine vx_callv (vx_runS (As := [.int j5]) (rest := []) ⟨hx, hb, hml, hown, hts⟩ (k_K_needArgument_er l hl0 j5 _ _ e_x9) (va_cwS 1 hts (ga_S ww_296 ww_297 ww_1 ww_298) rfl rfl rfl (by decide +kernel) ⟨by decide, by decide⟩) (pcx_pre hN hX hZ hS hA) rfl rfl hl.1 rfl (lv_room (Nat.le_of_ble_eq_true rfl)) d_K_open_22 ⟨Nat.le_of_ble_eq_true rfl, Nat.le_of_ble_eq_true rfl⟩) hS (fun q _ h => hFc q h) hFc (fun q _ h => hFc q h) (fun E ce q9 u t H1 locs ht hvm hpx hBX hz hk hS hce hcv hcl => ?_) (fun u t H1 locs _ _ hp _ _ _ _ => hp.elim)
      obtain rfl := hBX
      have hk : ∀ q : Nat, q < _ → H1[q]? = _ := fun q h => hk q h (fun z => Nat.lt_irrefl _ (Nat.lt_of_lt_of_le h z))
      have hP := xt_P hP hk
      exact vx_out (fun x h => (hout x h).elim) hlocks hce hcv hcl (fun t9 ht9 ha9 => ⟨_, rfl, ⟨rfl, by rw [ht9]; exact hP, va_K.moved ha9 hK, hD⟩, hS.F ht9⟩) hS.2.2 (Nat.le_of_ble_eq_true rfl) (Nat.le_of_ble_eq_true rfl)
    refine va_csv (va_runS (As := [.int j5]) (rest := []) ⟨hx, hb, hml, hown, hts⟩ (k_K_needArgument_ok l j5 n11 e_x9) (va_cwS 1 hts (ga_S ww_296 ww_297 ww_1 ww_298) rfl rfl rfl (by decide +kernel) ⟨by decide, by decide⟩) (pcs_pre hN) rfl rfl hl.1 rfl (lv_room (Nat.le_of_ble_eq_true rfl)) d_K_open_22 ⟨Nat.zero_le _, Nat.zero_le _⟩).run (fun _ => ?_)
    refine lv_aload_n hx hb d_K_open_25 rfl (lv_at hl 1 rfl) ?_
    refine lv_iload_n hx hb d_K_open_26 rfl (lv_at hl 2 rfl) ?_
    refine lv_lload hx hb d_K_open_27 (lv_at hl 0 rfl) ?_
    refine lv_lconst (v := 0) hx hb d_K_open_29 (by decide) ?_
    obtain ⟨⟨r13, g12⟩, e_g12, hF⟩ := Option.bind_eq_some_iff.mp hF
    have hFc := va_free (wc := wK A cc g0) hD hS hA [0, 1, 2, 3, 4, 5, 6, 7, 8, 9] rfl
    refine va_calll (va_runV (As := [.int a0, .long r4, .long 0]) (rest := []) ⟨hx, hb, hml, hown, hts⟩ (k_K_fill l D A cc g0 a0 r4 0 _ (r13, g12) e_g12) (cwV 3 hts (ga_V ww_316 ww_318 wp_4 ww_1 ww_319) rfl rfl rfl (by decide +kernel) ⟨by decide, by decide⟩) (pw_pre (q0 := 0) (ci := 2) hP hK hD hN rfl rfl) rfl rfl hl.1 rfl (lv_room (Nat.le_of_ble_eq_true rfl)) d_K_open_30 ⟨Nat.zero_le _, Nat.zero_le _⟩) hS (fun q _ h => hFc q h) hFc (fun r9 u9 t H locs ht hvm hp hB hz1 hk1 hS => ?_)
    obtain ⟨rfl, rfl⟩ := Prod.mk.inj hp.symm
    obtain ⟨hP, hD⟩ := bw_back hB ht hFc
    refine lv_pop2_2 hx hb d_K_open_33 rfl ?_
    cases hF
  clear hF
  have hF := q7
  refine lv_if_eq hx hb d_K_open_14 (tgt := 21) (by decide) (fun h9 => ?_) (fun h9 => ?_)
  · have hF := (if_pos h9).symm.trans hF
    refine lv_iconst (v := 0) hx hb d_K_open_21 (by decide) ?_
    obtain rfl := Option.some.inj hF
    exact k6 _ _ ls hP hD hS (lv_sub hl [0, 1, 2] rfl)
  · have hF := (if_neg h9).symm.trans hF
    refine lv_iconst (v := 1) hx hb d_K_open_17 (by decide) ?_
    refine lv_goto hx hb d_K_open_18 (tgt := 22) (by decide) ?_
    obtain rfl := Option.some.inj hF
    exact k6 _ _ ls hP hD hS (lv_sub hl [0, 1, 2] rfl)
def f_K_code (g0 : sK) (a0 : Int32) : Option (Except (String × sK) (Int64 × sK)) := Option.bind (f_K_needSlot a0) (fun x1 => match x1 with | .error E9 => some (.error (E9, g0)) | .ok _ => (if a0 < 0 ∨ 6 ≤ Int32.toNatClampNeg a0 then none else (Option.bind (f_C_toCode (g0.1 (Int32.toNatClampNeg a0))) (fun r5 => some (.ok (r5, g0))))))
abbrev rm_K_code : Room := { frames := 2, cells := 0, slots := 0, locals := 42 }
abbrev rx_K_code : Room := { frames := 7, cells := 1, slots := 6, locals := 110 }
set_option maxHeartbeats 4000000 in
set_option maxRecDepth 100000 in
theorem k_K_code_ok (l : Launch) (D : va_G) (A : Nat → Nat) (cc : Nat → ClassId) (g0 : sK) (a0 : Int32) (sz : Nat) (res : (Int64 × sK)) (hF : f_K_code g0 a0 = some (.ok res)) : Met l y_K_code (Cond.code y_K_code b_K_code 2 (some .long) :: wa) rm_K_code (pw D (wK A cc g0) (kK cc) [.ref (A 0), .int a0] sz) (va_Ql (fun r u => (r, u) = res) (bw D (wK A cc) (kK cc) (va_A (wK A cc g0) sz)) (va_A (wK A cc g0) sz)) 0 0 (va_A (wK A cc g0) sz) := by
  refine Met.ofW (cc := b_K_code) (maxL := 2) (ret := (some .long)) (by decide) rfl ?_
  intro p e s m args below meth c s₁ B hml hv
  obtain ⟨rfl, hsz, hP, hK, hD0, hN⟩ := hv
  subst hsz
  have hD := hD0.self (sz := s.heap.size)
  generalize hAe : va_A (wK A cc g0) s.heap.size = AA at hD ⊢
  have hx := B.exec
  have hb := B.bytes
  have hr := B.returns
  have hts := atoms_spec (ws := Cond.code y_K_code b_K_code 2 (some .long) :: wa) B.pre
  have hw : ∀ w ∈ wa, w.before _ s = true := fun w h => hts w (List.mem_cons_of_mem _ h)
  have hown : s.vm.findClass R_K = some m.cls := findClass_of_methodNamed B.named
  have hlocks := B.notSynchronized
  have hA : ∀ q : Nat, s.heap.size ≤ q → AA q := fun q h => by rw [← hAe]; exact Or.inr h
  have hS : va_S AA s.heap s.heap [] := va_S.rf
  have hl := lv_entry ([.ref (A 0), .int a0]) (n := 2) (Nat.le_of_ble_eq_true rfl)
  rw [lg_entry_eq]
  generalize (lg_sl ([.ref (A 0), .int a0]) ++ List.replicate (2 - (lg_sl ([.ref (A 0), .int a0])).length) Slot.unset).toArray = ls at hl ⊢
  have hl : lv_has ls 2 [(0, .ref (A 0)), (1, .int a0)] := hl
  unfold f_K_code at hF
  refine lv_iload_n hx hb d_K_code_0 rfl (lv_at hl 1 rfl) ?_
  obtain ⟨x1, e_x1, hF⟩ := Option.bind_eq_some_iff.mp hF
  rcases x1 with E2 | n3
  · cases hF
  refine va_csv (va_runS (As := [.int a0]) (rest := []) ⟨hx, hb, hml, hown, hts⟩ (k_K_needSlot_ok l a0 n3 e_x1) (va_cwS 1 hts (ga_S ww_225 ww_226 ww_1 ww_227) rfl rfl rfl (by decide +kernel) ⟨by decide, by decide⟩) (pcs_pre hN) rfl rfl hl.1 rfl (lv_room (Nat.le_of_ble_eq_true rfl)) d_K_code_1 ⟨Nat.zero_le _, Nat.zero_le _⟩).run (fun _ => ?_)
  refine lv_aload_n hx hb d_K_code_4 rfl (lv_at hl 0 rfl) ?_
  refine va_get (D := D) (ci := 2) (v := .ref (A 1)) (C := R_K) (T := T_K) (N := 5) hx hb hts in_K hown hK hP 0 rfl rfl 0 (by decide) (hw _ ww_62) (fun _ h9 => h9) rfl d_K_code_5 ?_
  refine lv_iload_n hx hb d_K_code_8 rfl (lv_at hl 1 rfl) ?_
  by_cases h4 : a0 < 0 ∨ 6 ≤ Int32.toNatClampNeg a0
  · have h0 := (if_pos h4).symm.trans hF; cases h0
  have hF := (if_neg h4).symm.trans hF
  refine va_lald hx hb hK hP 1 0 rfl rfl h4 d_K_code_9 ?_
  obtain ⟨r5, e_r5, hF⟩ := Option.bind_eq_some_iff.mp hF
  refine vp_callSl (va_runS (As := [.long (g0.1 (Int32.toNatClampNeg a0))]) (rest := []) ⟨hx, hb, hml, hown, hts⟩ (k_C_toCode l (g0.1 (Int32.toNatClampNeg a0)) r5 e_r5) (va_cwS 1 hts (ga_S ww_109 ww_110 ww_11 ww_111) rfl rfl rfl (by decide +kernel) ⟨by decide, by decide⟩) (pcs_pre hN) rfl rfl hl.1 rfl (lv_room (Nat.le_of_ble_eq_true rfl)) d_K_code_10 ⟨Nat.zero_le _, Nat.zero_le _⟩).run (fun z9 hz9 => ?_)
  obtain rfl : r5 = z9 := hz9.symm
  cases hF
  exact W.lret hx hb hr (fun t ht hW => ⟨⟨_, _, rfl, rfl, bw_end hP hK hD ht hW⟩, hS.F ht⟩) hS.2.2 d_K_code_13
set_option maxHeartbeats 4000000 in
set_option maxRecDepth 100000 in
theorem k_K_code_er (l : Launch) (hl0 : l.stackTraces = false) (D : va_G) (A : Nat → Nat) (cc : Nat → ClassId) (g0 : sK) (a0 : Int32) (sz : Nat) (E0 : String) (gE : sK) (hF : f_K_code g0 a0 = some (.error (E0, gE))) : vx_Met l y_K_code (Cond.code y_K_code b_K_code 2 (some .long) :: wa) rx_K_code (pwx D (wK A cc g0) (kK cc) [.ref (A 0), .int a0] sz) (va_Ql (fun _ (_ : Unit) => False) (fun _ _ => True) (va_A (wK A cc g0) sz)) (vx_X (fun u => u = gE) (fun E u t => E = E0 ∧ bw D (wK A cc) (kK cc) (va_A (wK A cc g0) sz) u t) (va_A (wK A cc g0) sz)) 1 6 (va_A (wK A cc g0) sz) := by
  refine vx_ofW (cc := b_K_code) (maxL := 2) (ret := (some .long)) (by decide) rfl ?_
  intro p e s m args below meth c s₁ B hml hout hv
  obtain ⟨⟨rfl, hsz, hP, hK, hD0, hN⟩, hX, hZ⟩ := hv
  subst hsz
  have hD := hD0.self (sz := s.heap.size)
  generalize hAe : va_A (wK A cc g0) s.heap.size = AA at hD hZ ⊢
  have hx := B.exec
  have hb := B.bytes
  have hr := B.returns
  have hts := atoms_spec (ws := Cond.code y_K_code b_K_code 2 (some .long) :: wa) B.pre
  have hw : ∀ w ∈ wa, w.before _ s = true := fun w h => hts w (List.mem_cons_of_mem _ h)
  have hown : s.vm.findClass R_K = some m.cls := findClass_of_methodNamed B.named
  have hlocks := B.notSynchronized
  have hA : ∀ q : Nat, s.heap.size ≤ q → AA q := fun q h => by rw [← hAe]; exact Or.inr h
  have hS : va_S AA s.heap s.heap [] := va_S.rf
  have hl := lv_entry ([.ref (A 0), .int a0]) (n := 2) (Nat.le_of_ble_eq_true rfl)
  rw [lg_entry_eq]
  generalize (lg_sl ([.ref (A 0), .int a0]) ++ List.replicate (2 - (lg_sl ([.ref (A 0), .int a0])).length) Slot.unset).toArray = ls at hl ⊢
  have hl : lv_has ls 2 [(0, .ref (A 0)), (1, .int a0)] := hl
  unfold f_K_code at hF
  refine lv_iload_n hx hb d_K_code_0 rfl (lv_at hl 1 rfl) ?_
  obtain ⟨x1, e_x1, hF⟩ := Option.bind_eq_some_iff.mp hF
  rcases x1 with E2 | n3
  · cases hF
    have hFc : ∀ q, fr (Array.size _) q → AA q := fun q h => hA q (Nat.le_trans hS.1 h)
    refine vx_callv (vx_runS (As := [.int a0]) (rest := []) ⟨hx, hb, hml, hown, hts⟩ (k_K_needSlot_er l hl0 a0 _ _ e_x1) (va_cwS 1 hts (ga_S ww_225 ww_226 ww_1 ww_227) rfl rfl rfl (by decide +kernel) ⟨by decide, by decide⟩) (pcx_pre hN hX hZ hS hA) rfl rfl hl.1 rfl (lv_room (Nat.le_of_ble_eq_true rfl)) d_K_code_1 ⟨Nat.le_of_ble_eq_true rfl, Nat.le_of_ble_eq_true rfl⟩) hS (fun q _ h => hFc q h) hFc (fun q _ h => hFc q h) (fun E ce q9 u t H1 locs ht hvm hpx hBX hz hk hS hce hcv hcl => ?_) (fun u t H1 locs _ _ hp _ _ _ _ => hp.elim)
    obtain rfl := hBX
    have hk : ∀ q : Nat, q < _ → H1[q]? = _ := fun q h => hk q h (fun z => Nat.lt_irrefl _ (Nat.lt_of_lt_of_le h z))
    have hP := xt_P hP hk
    exact vx_out (fun x h => (hout x h).elim) hlocks hce hcv hcl (fun t9 ht9 ha9 => ⟨_, rfl, ⟨rfl, by rw [ht9]; exact hP, va_K.moved ha9 hK, hD⟩, hS.F ht9⟩) hS.2.2 (Nat.le_of_ble_eq_true rfl) (Nat.le_of_ble_eq_true rfl)
  refine va_csv (va_runS (As := [.int a0]) (rest := []) ⟨hx, hb, hml, hown, hts⟩ (k_K_needSlot_ok l a0 n3 e_x1) (va_cwS 1 hts (ga_S ww_225 ww_226 ww_1 ww_227) rfl rfl rfl (by decide +kernel) ⟨by decide, by decide⟩) (pcs_pre hN) rfl rfl hl.1 rfl (lv_room (Nat.le_of_ble_eq_true rfl)) d_K_code_1 ⟨Nat.zero_le _, Nat.zero_le _⟩).run (fun _ => ?_)
  refine lv_aload_n hx hb d_K_code_4 rfl (lv_at hl 0 rfl) ?_
  refine va_get (D := D) (ci := 2) (v := .ref (A 1)) (C := R_K) (T := T_K) (N := 5) hx hb hts in_K hown hK hP 0 rfl rfl 0 (by decide) (hw _ ww_62) (fun _ h9 => h9) rfl d_K_code_5 ?_
  refine lv_iload_n hx hb d_K_code_8 rfl (lv_at hl 1 rfl) ?_
  by_cases h4 : a0 < 0 ∨ 6 ≤ Int32.toNatClampNeg a0
  · have h0 := (if_pos h4).symm.trans hF; cases h0
  have hF := (if_neg h4).symm.trans hF
  refine va_lald hx hb hK hP 1 0 rfl rfl h4 d_K_code_9 ?_
  obtain ⟨r5, e_r5, hF⟩ := Option.bind_eq_some_iff.mp hF
  refine vp_callSl (va_runS (As := [.long (g0.1 (Int32.toNatClampNeg a0))]) (rest := []) ⟨hx, hb, hml, hown, hts⟩ (k_C_toCode l (g0.1 (Int32.toNatClampNeg a0)) r5 e_r5) (va_cwS 1 hts (ga_S ww_109 ww_110 ww_11 ww_111) rfl rfl rfl (by decide +kernel) ⟨by decide, by decide⟩) (pcs_pre hN) rfl rfl hl.1 rfl (lv_room (Nat.le_of_ble_eq_true rfl)) d_K_code_10 ⟨Nat.zero_le _, Nat.zero_le _⟩).run (fun z9 hz9 => ?_)
  obtain rfl : r5 = z9 := hz9.symm
  cases hF
def f_K_tweak (g0 : sK) (a0 : Int32) (a1 : Int32) (a2 : Int32) : Option (Except (String × sK) (Int64 × sK)) := Option.bind (f_K_needSlot a0) (fun x1 => match x1 with | .error E9 => some (.error (E9, g0)) | .ok _ => (Option.bind (f_K_pointOf g0 a0) (fun x4 => match x4 with | .error E9 => some (.error E9) | .ok (r6, g7) => (Option.bind (f_S_has (Int32.toInt64 a1)) (fun r8 => Option.bind (f_K_needArgument r8) (fun x9 => match x9 with | .error E9 => some (.error (E9, g7)) | .ok _ => (Option.bind (if a2 = 0 then (Option.bind (f_C_multiple (Int32.toInt64 a1) 4411025356) (fun r28 => Option.bind (f_C_sum r6 r28) (fun r29 => some (r29))) : Option (Int64)) else (Option.bind (f_C_multiple (Int32.toInt64 a1) r6) (fun r30 => some (r30)))) (fun j12 => Option.bind (if (lg_cmp j12 0) = 0 then (some (0) : Option (Int32)) else (some (1))) (fun j16 => Option.bind (f_K_needArgument j16) (fun x20 => match x20 with | .error E9 => some (.error (E9, g7)) | .ok _ => (if a0 < 0 ∨ 6 ≤ Int32.toNatClampNeg a0 then none else (Option.bind (f_K_movedSecret (g7.2.1 (Int32.toNatClampNeg a0)) (Int32.toInt64 a1) a2) (fun r24 => Option.bind (f_K_fill g7 a0 j12 r24) (fun t27 => match t27 with | (r26, g25) => (some (.ok (r26, g25)))))))))))))))))
abbrev rm_K_tweak : Room := { frames := 4, cells := 0, slots := 0, locals := 120 }
abbrev rx_K_tweak : Room := { frames := 7, cells := 1, slots := 6, locals := 120 }
set_option maxHeartbeats 4000000 in
set_option maxRecDepth 100000 in
theorem k_K_tweak_ok (l : Launch) (D : va_G) (A : Nat → Nat) (cc : Nat → ClassId) (g0 : sK) (a0 : Int32) (a1 : Int32) (a2 : Int32) (sz : Nat) (res : (Int64 × sK)) (hF : f_K_tweak g0 a0 a1 a2 = some (.ok res)) : Met l y_K_tweak (Cond.code y_K_tweak b_K_tweak 8 (some .long) :: wa) rm_K_tweak (pw D (wK A cc g0) (kK cc) [.ref (A 0), .int a0, .int a1, .int a2] sz) (va_Ql (fun r u => (r, u) = res) (bw D (wK A cc) (kK cc) (va_A (wK A cc g0) sz)) (va_A (wK A cc g0) sz)) 0 0 (va_A (wK A cc g0) sz) := by
  refine Met.ofW (cc := b_K_tweak) (maxL := 8) (ret := (some .long)) (by decide) rfl ?_
  intro p e s m args below meth c s₁ B hml hv
  obtain ⟨rfl, hsz, hP, hK, hD0, hN⟩ := hv
  subst hsz
  have hD := hD0.self (sz := s.heap.size)
  generalize hAe : va_A (wK A cc g0) s.heap.size = AA at hD ⊢
  have hx := B.exec
  have hb := B.bytes
  have hr := B.returns
  have hts := atoms_spec (ws := Cond.code y_K_tweak b_K_tweak 8 (some .long) :: wa) B.pre
  have hw : ∀ w ∈ wa, w.before _ s = true := fun w h => hts w (List.mem_cons_of_mem _ h)
  have hown : s.vm.findClass R_K = some m.cls := findClass_of_methodNamed B.named
  have hlocks := B.notSynchronized
  have hA : ∀ q : Nat, s.heap.size ≤ q → AA q := fun q h => by rw [← hAe]; exact Or.inr h
  have hS : va_S AA s.heap s.heap [] := va_S.rf
  have hl := lv_entry ([.ref (A 0), .int a0, .int a1, .int a2]) (n := 8) (Nat.le_of_ble_eq_true rfl)
  rw [lg_entry_eq]
  generalize (lg_sl ([.ref (A 0), .int a0, .int a1, .int a2]) ++ List.replicate (8 - (lg_sl ([.ref (A 0), .int a0, .int a1, .int a2])).length) Slot.unset).toArray = ls at hl ⊢
  have hl : lv_has ls 8 [(0, .ref (A 0)), (1, .int a0), (2, .int a1), (3, .int a2)] := hl
  unfold f_K_tweak at hF
  refine lv_iload_n hx hb d_K_tweak_0 rfl (lv_at hl 1 rfl) ?_
  obtain ⟨x1, e_x1, hF⟩ := Option.bind_eq_some_iff.mp hF
  rcases x1 with E2 | n3
  · cases hF
  refine va_csv (va_runS (As := [.int a0]) (rest := []) ⟨hx, hb, hml, hown, hts⟩ (k_K_needSlot_ok l a0 n3 e_x1) (va_cwS 1 hts (ga_S ww_225 ww_226 ww_1 ww_227) rfl rfl rfl (by decide +kernel) ⟨by decide, by decide⟩) (pcs_pre hN) rfl rfl hl.1 rfl (lv_room (Nat.le_of_ble_eq_true rfl)) d_K_tweak_1 ⟨Nat.zero_le _, Nat.zero_le _⟩).run (fun _ => ?_)
  refine lv_aload_n hx hb d_K_tweak_4 rfl (lv_at hl 0 rfl) ?_
  refine lv_iload_n hx hb d_K_tweak_5 rfl (lv_at hl 1 rfl) ?_
  obtain ⟨x4, e_x4, hF⟩ := Option.bind_eq_some_iff.mp hF
  rcases x4 with ⟨E5, hE5⟩ | ⟨r6, g7⟩
  · cases hF
  have hFc := va_free (wc := wK A cc g0) hD hS hA [0, 1, 2, 3, 4, 5, 6, 7, 8, 9] rfl
  refine va_calll (va_runV (As := [.int a0]) (rest := []) ⟨hx, hb, hml, hown, hts⟩ (k_K_pointOf_ok l D A cc g0 a0 _ (r6, g7) e_x4) (cwV 1 hts (ga_V ww_346 ww_348 wp_5 ww_1 ww_349) rfl rfl rfl (by decide +kernel) ⟨by decide, by decide⟩) (pw_pre (q0 := 0) (ci := 2) hP hK hD hN rfl rfl) rfl rfl hl.1 rfl (lv_room (Nat.le_of_ble_eq_true rfl)) d_K_tweak_6 ⟨Nat.zero_le _, Nat.zero_le _⟩) hS (fun q _ h => hFc q h) hFc (fun r9 u9 t H locs ht hvm hp hB hz1 hk1 hS => ?_)
  obtain ⟨rfl, rfl⟩ := Prod.mk.inj hp.symm
  obtain ⟨hP, hD⟩ := bw_back hB ht hFc
  refine lv_lstore hx hb d_K_tweak_9 hl (by decide) (lv' := [(4, .long r6), (0, .ref (A 0)), (1, .int a0), (2, .int a1), (3, .int a2)]) rfl (fun ls hl => ?_)
  refine lv_iload_n hx hb d_K_tweak_11 rfl (lv_at hl 3 rfl) ?_
  refine lv_i2l (v := Int32.toInt64 a1) hx hb d_K_tweak_12 rfl ?_
  obtain ⟨r8, e_r8, hF⟩ := Option.bind_eq_some_iff.mp hF
  refine vp_callSi (va_runS (As := [.long (Int32.toInt64 a1)]) (rest := []) ⟨hx, hb, hml, hown, hts⟩ (k_S_has l (Int32.toInt64 a1) r8 e_r8) (va_cwS 1 hts (ga_S ww_365 ww_126 ww_9 ww_127) rfl rfl rfl (by decide +kernel) ⟨by decide, by decide⟩) (pcs_pre hN) rfl rfl hl.1 rfl (lv_room (Nat.le_of_ble_eq_true rfl)) d_K_tweak_13 ⟨Nat.zero_le _, Nat.zero_le _⟩).run (fun z9 hz9 => ?_)
  obtain rfl : r8 = z9 := hz9.symm
  obtain ⟨x9, e_x9, hF⟩ := Option.bind_eq_some_iff.mp hF
  rcases x9 with E10 | n11
  · cases hF
  refine va_csv (va_runS (As := [.int r8]) (rest := []) ⟨hx, hb, hml, hown, hts⟩ (k_K_needArgument_ok l r8 n11 e_x9) (va_cwS 1 hts (ga_S ww_296 ww_297 ww_1 ww_298) rfl rfl rfl (by decide +kernel) ⟨by decide, by decide⟩) (pcs_pre hN) rfl rfl hl.1 rfl (lv_room (Nat.le_of_ble_eq_true rfl)) d_K_tweak_16 ⟨Nat.zero_le _, Nat.zero_le _⟩).run (fun _ => ?_)
  refine lv_iload_n hx hb d_K_tweak_19 rfl (lv_at hl 4 rfl) ?_
  obtain ⟨j12, q14, hF⟩ := Option.bind_eq_some_iff.mp hF
  have k13 : ∀ (H : Heap) (locs : List Loc) (ls : Array Slot), va_P D vwC (wK A cc g7) H → va_D AA (wK A cc g7) → va_S AA s.heap H locs → lv_has ls 8 [(0, .ref (A 0)), (1, .int a0), (2, .int a1), (3, .int a2)] → W p l e rm_K_tweak s m ([Value.ref (A 0), Value.int a0, Value.int a1, Value.int a2] : List Value).toArray below meth c H locs 0 0 (MQ below (va_Ql (fun r u => (r, u) = res) (bw D (wK A cc) (kK cc) AA) AA) ([Value.ref (A 0), Value.int a0, Value.int a1, Value.int a2] : List Value).toArray s 0 0 AA) (F0 m 46 ls [.long j12]) := by
    intro H locs ls hP hD hS hl
    refine lv_lstore hx hb d_K_tweak_46 hl (by decide) (lv' := [(6, .long j12), (0, .ref (A 0)), (1, .int a0), (2, .int a1), (3, .int a2)]) rfl (fun ls hl => ?_)
    refine lv_lload hx hb d_K_tweak_48 (lv_at hl 0 rfl) ?_
    refine lv_lconst (v := 0) hx hb d_K_tweak_50 (by decide) ?_
    refine W.lcmp hx hb d_K_tweak_51 ?_
    obtain ⟨j16, q18, hF⟩ := Option.bind_eq_some_iff.mp hF
    have k17 : ∀ (H : Heap) (locs : List Loc) (ls : Array Slot), va_P D vwC (wK A cc g7) H → va_D AA (wK A cc g7) → va_S AA s.heap H locs → lv_has ls 8 [(6, .long j12), (0, .ref (A 0)), (1, .int a0), (2, .int a1), (3, .int a2)] → W p l e rm_K_tweak s m ([Value.ref (A 0), Value.int a0, Value.int a1, Value.int a2] : List Value).toArray below meth c H locs 0 0 (MQ below (va_Ql (fun r u => (r, u) = res) (bw D (wK A cc) (kK cc) AA) AA) ([Value.ref (A 0), Value.int a0, Value.int a1, Value.int a2] : List Value).toArray s 0 0 AA) (F0 m 60 ls [.int j16]) := by
      intro H locs ls hP hD hS hl
      obtain ⟨x20, e_x20, hF⟩ := Option.bind_eq_some_iff.mp hF
      rcases x20 with E21 | n22
      · cases hF
      refine va_csv (va_runS (As := [.int j16]) (rest := []) ⟨hx, hb, hml, hown, hts⟩ (k_K_needArgument_ok l j16 n22 e_x20) (va_cwS 1 hts (ga_S ww_296 ww_297 ww_1 ww_298) rfl rfl rfl (by decide +kernel) ⟨by decide, by decide⟩) (pcs_pre hN) rfl rfl hl.1 rfl (lv_room (Nat.le_of_ble_eq_true rfl)) d_K_tweak_60 ⟨Nat.zero_le _, Nat.zero_le _⟩).run (fun _ => ?_)
      refine lv_aload_n hx hb d_K_tweak_63 rfl (lv_at hl 1 rfl) ?_
      refine lv_iload_n hx hb d_K_tweak_64 rfl (lv_at hl 2 rfl) ?_
      refine lv_lload hx hb d_K_tweak_65 (lv_at hl 0 rfl) ?_
      refine lv_aload_n hx hb d_K_tweak_67 rfl (lv_at hl 1 rfl) ?_
      refine va_get (D := D) (ci := 2) (v := .ref (A 2)) (C := R_K) (T := T_K) (N := 5) hx hb hts in_K hown hK hP 0 rfl rfl 1 (by decide) (hw _ ww_63) (fun _ h9 => h9) rfl d_K_tweak_68 ?_
      refine lv_iload_n hx hb d_K_tweak_71 rfl (lv_at hl 2 rfl) ?_
      by_cases h23 : a0 < 0 ∨ 6 ≤ Int32.toNatClampNeg a0
      · have h0 := (if_pos h23).symm.trans hF; cases h0
      have hF := (if_neg h23).symm.trans hF
      refine va_lald hx hb hK hP 2 1 rfl rfl h23 d_K_tweak_72 ?_
      refine lv_iload_n hx hb d_K_tweak_73 rfl (lv_at hl 3 rfl) ?_
      refine lv_i2l (v := Int32.toInt64 a1) hx hb d_K_tweak_74 rfl ?_
      refine lv_iload_n hx hb d_K_tweak_75 rfl (lv_at hl 4 rfl) ?_
      obtain ⟨r24, e_r24, hF⟩ := Option.bind_eq_some_iff.mp hF
      refine vp_callSl (va_runS (As := [.long (g7.2.1 (Int32.toNatClampNeg a0)), .long (Int32.toInt64 a1), .int a2]) (rest := [.long j12, .int a0, .ref (A 0)]) ⟨hx, hb, hml, hown, hts⟩ (k_K_movedSecret l (g7.2.1 (Int32.toNatClampNeg a0)) (Int32.toInt64 a1) a2 r24 e_r24) (va_cwS 3 hts (ga_S ww_367 ww_368 ww_1 ww_369) rfl rfl rfl (by decide +kernel) ⟨by decide, by decide⟩) (pcs_pre hN) rfl rfl hl.1 rfl (lv_room (Nat.le_of_ble_eq_true rfl)) d_K_tweak_76 ⟨Nat.zero_le _, Nat.zero_le _⟩).run (fun z9 hz9 => ?_)
      obtain rfl : r24 = z9 := hz9.symm
      obtain ⟨⟨r26, g25⟩, e_g25, hF⟩ := Option.bind_eq_some_iff.mp hF
      have hFc := va_free (wc := wK A cc g7) hD hS hA [0, 1, 2, 3, 4, 5, 6, 7, 8, 9] rfl
      refine va_calll (va_runV (As := [.int a0, .long j12, .long r24]) (rest := []) ⟨hx, hb, hml, hown, hts⟩ (k_K_fill l D A cc g7 a0 j12 r24 _ (r26, g25) e_g25) (cwV 3 hts (ga_V ww_316 ww_318 wp_4 ww_1 ww_319) rfl rfl rfl (by decide +kernel) ⟨by decide, by decide⟩) (pw_pre (q0 := 0) (ci := 2) hP hK hD hN rfl rfl) rfl rfl hl.1 rfl (lv_room (Nat.le_of_ble_eq_true rfl)) d_K_tweak_79 ⟨Nat.zero_le _, Nat.zero_le _⟩) hS (fun q _ h => hFc q h) hFc (fun r9 u9 t H locs ht hvm hp hB hz1 hk1 hS => ?_)
      obtain ⟨rfl, rfl⟩ := Prod.mk.inj hp.symm
      obtain ⟨hP, hD⟩ := bw_back hB ht hFc
      cases hF
      exact W.lret hx hb hr (fun t ht hW => ⟨⟨_, _, rfl, rfl, bw_end hP hK hD ht hW⟩, hS.F ht⟩) hS.2.2 d_K_tweak_82
    clear hF
    have hF := q18
    refine lv_if_eq hx hb d_K_tweak_52 (tgt := 59) (by decide) (fun h9 => ?_) (fun h9 => ?_)
    · have hF := (if_pos h9).symm.trans hF
      refine lv_iconst (v := 0) hx hb d_K_tweak_59 (by decide) ?_
      obtain rfl := Option.some.inj hF
      exact k17 _ _ ls hP hD hS (lv_sub hl [0, 1, 2, 3, 4] rfl)
    · have hF := (if_neg h9).symm.trans hF
      refine lv_iconst (v := 1) hx hb d_K_tweak_55 (by decide) ?_
      refine lv_goto hx hb d_K_tweak_56 (tgt := 60) (by decide) ?_
      obtain rfl := Option.some.inj hF
      exact k17 _ _ ls hP hD hS (lv_sub hl [0, 1, 2, 3, 4] rfl)
  clear hF
  have hF := q14
  refine lv_if_eq hx hb d_K_tweak_20 (tgt := 33) (by decide) (fun h9 => ?_) (fun h9 => ?_)
  · have hF := (if_pos h9).symm.trans hF
    refine lv_lload hx hb d_K_tweak_33 (lv_at hl 0 rfl) ?_
    refine lv_iload_n hx hb d_K_tweak_35 rfl (lv_at hl 3 rfl) ?_
    refine lv_i2l (v := Int32.toInt64 a1) hx hb d_K_tweak_36 rfl ?_
    refine lv_ldc2 (v := 4411025356) hx hb hown (hw _ ww_314) d_K_tweak_37 ?_
    obtain ⟨r28, e_r28, hF⟩ := Option.bind_eq_some_iff.mp hF
    refine vp_callSl (va_runS (As := [.long (Int32.toInt64 a1), .long 4411025356]) (rest := [.long r6]) ⟨hx, hb, hml, hown, hts⟩ (k_C_multiple l (Int32.toInt64 a1) 4411025356 r28 e_r28) (va_cwS 2 hts (ga_S ww_315 ww_152 ww_11 ww_153) rfl rfl rfl (by decide +kernel) ⟨by decide, by decide⟩) (pcs_pre hN) rfl rfl hl.1 rfl (lv_room (Nat.le_of_ble_eq_true rfl)) d_K_tweak_40 ⟨Nat.zero_le _, Nat.zero_le _⟩).run (fun z9 hz9 => ?_)
    obtain rfl : r28 = z9 := hz9.symm
    obtain ⟨r29, e_r29, hF⟩ := Option.bind_eq_some_iff.mp hF
    refine vp_callSl (va_runS (As := [.long r6, .long r28]) (rest := []) ⟨hx, hb, hml, hown, hts⟩ (k_C_sum l r6 r28 r29 e_r29) (va_cwS 2 hts (ga_S ww_366 ww_155 ww_11 ww_156) rfl rfl rfl (by decide +kernel) ⟨by decide, by decide⟩) (pcs_pre hN) rfl rfl hl.1 rfl (lv_room (Nat.le_of_ble_eq_true rfl)) d_K_tweak_43 ⟨Nat.zero_le _, Nat.zero_le _⟩).run (fun z9 hz9 => ?_)
    obtain rfl : r29 = z9 := hz9.symm
    obtain rfl := Option.some.inj hF
    exact k13 _ _ ls hP hD hS (lv_sub hl [1, 2, 3, 4] rfl)
  · have hF := (if_neg h9).symm.trans hF
    refine lv_iload_n hx hb d_K_tweak_23 rfl (lv_at hl 3 rfl) ?_
    refine lv_i2l (v := Int32.toInt64 a1) hx hb d_K_tweak_24 rfl ?_
    refine lv_lload hx hb d_K_tweak_25 (lv_at hl 0 rfl) ?_
    obtain ⟨r30, e_r30, hF⟩ := Option.bind_eq_some_iff.mp hF
    refine vp_callSl (va_runS (As := [.long (Int32.toInt64 a1), .long r6]) (rest := []) ⟨hx, hb, hml, hown, hts⟩ (k_C_multiple l (Int32.toInt64 a1) r6 r30 e_r30) (va_cwS 2 hts (ga_S ww_315 ww_152 ww_11 ww_153) rfl rfl rfl (by decide +kernel) ⟨by decide, by decide⟩) (pcs_pre hN) rfl rfl hl.1 rfl (lv_room (Nat.le_of_ble_eq_true rfl)) d_K_tweak_27 ⟨Nat.zero_le _, Nat.zero_le _⟩).run (fun z9 hz9 => ?_)
    obtain rfl : r30 = z9 := hz9.symm
    refine lv_goto hx hb d_K_tweak_30 (tgt := 46) (by decide) ?_
    obtain rfl := Option.some.inj hF
    exact k13 _ _ ls hP hD hS (lv_sub hl [1, 2, 3, 4] rfl)
set_option maxHeartbeats 4000000 in
set_option maxRecDepth 100000 in
theorem k_K_tweak_er (l : Launch) (hl0 : l.stackTraces = false) (D : va_G) (A : Nat → Nat) (cc : Nat → ClassId) (g0 : sK) (a0 : Int32) (a1 : Int32) (a2 : Int32) (sz : Nat) (E0 : String) (gE : sK) (hF : f_K_tweak g0 a0 a1 a2 = some (.error (E0, gE))) : vx_Met l y_K_tweak (Cond.code y_K_tweak b_K_tweak 8 (some .long) :: wa) rx_K_tweak (pwx D (wK A cc g0) (kK cc) [.ref (A 0), .int a0, .int a1, .int a2] sz) (va_Ql (fun _ (_ : Unit) => False) (fun _ _ => True) (va_A (wK A cc g0) sz)) (vx_X (fun u => u = gE) (fun E u t => E = E0 ∧ bw D (wK A cc) (kK cc) (va_A (wK A cc g0) sz) u t) (va_A (wK A cc g0) sz)) 1 6 (va_A (wK A cc g0) sz) := by
  refine vx_ofW (cc := b_K_tweak) (maxL := 8) (ret := (some .long)) (by decide) rfl ?_
  intro p e s m args below meth c s₁ B hml hout hv
  obtain ⟨⟨rfl, hsz, hP, hK, hD0, hN⟩, hX, hZ⟩ := hv
  subst hsz
  have hD := hD0.self (sz := s.heap.size)
  generalize hAe : va_A (wK A cc g0) s.heap.size = AA at hD hZ ⊢
  have hx := B.exec
  have hb := B.bytes
  have hr := B.returns
  have hts := atoms_spec (ws := Cond.code y_K_tweak b_K_tweak 8 (some .long) :: wa) B.pre
  have hw : ∀ w ∈ wa, w.before _ s = true := fun w h => hts w (List.mem_cons_of_mem _ h)
  have hown : s.vm.findClass R_K = some m.cls := findClass_of_methodNamed B.named
  have hlocks := B.notSynchronized
  have hA : ∀ q : Nat, s.heap.size ≤ q → AA q := fun q h => by rw [← hAe]; exact Or.inr h
  have hS : va_S AA s.heap s.heap [] := va_S.rf
  have hl := lv_entry ([.ref (A 0), .int a0, .int a1, .int a2]) (n := 8) (Nat.le_of_ble_eq_true rfl)
  rw [lg_entry_eq]
  generalize (lg_sl ([.ref (A 0), .int a0, .int a1, .int a2]) ++ List.replicate (8 - (lg_sl ([.ref (A 0), .int a0, .int a1, .int a2])).length) Slot.unset).toArray = ls at hl ⊢
  have hl : lv_has ls 8 [(0, .ref (A 0)), (1, .int a0), (2, .int a1), (3, .int a2)] := hl
  unfold f_K_tweak at hF
  refine lv_iload_n hx hb d_K_tweak_0 rfl (lv_at hl 1 rfl) ?_
  obtain ⟨x1, e_x1, hF⟩ := Option.bind_eq_some_iff.mp hF
  rcases x1 with E2 | n3
  · cases hF
    have hFc : ∀ q, fr (Array.size _) q → AA q := fun q h => hA q (Nat.le_trans hS.1 h)
    refine vx_callv (vx_runS (As := [.int a0]) (rest := []) ⟨hx, hb, hml, hown, hts⟩ (k_K_needSlot_er l hl0 a0 _ _ e_x1) (va_cwS 1 hts (ga_S ww_225 ww_226 ww_1 ww_227) rfl rfl rfl (by decide +kernel) ⟨by decide, by decide⟩) (pcx_pre hN hX hZ hS hA) rfl rfl hl.1 rfl (lv_room (Nat.le_of_ble_eq_true rfl)) d_K_tweak_1 ⟨Nat.le_of_ble_eq_true rfl, Nat.le_of_ble_eq_true rfl⟩) hS (fun q _ h => hFc q h) hFc (fun q _ h => hFc q h) (fun E ce q9 u t H1 locs ht hvm hpx hBX hz hk hS hce hcv hcl => ?_) (fun u t H1 locs _ _ hp _ _ _ _ => hp.elim)
    obtain rfl := hBX
    have hk : ∀ q : Nat, q < _ → H1[q]? = _ := fun q h => hk q h (fun z => Nat.lt_irrefl _ (Nat.lt_of_lt_of_le h z))
    have hP := xt_P hP hk
    exact vx_out (fun x h => (hout x h).elim) hlocks hce hcv hcl (fun t9 ht9 ha9 => ⟨_, rfl, ⟨rfl, by rw [ht9]; exact hP, va_K.moved ha9 hK, hD⟩, hS.F ht9⟩) hS.2.2 (Nat.le_of_ble_eq_true rfl) (Nat.le_of_ble_eq_true rfl)
  refine va_csv (va_runS (As := [.int a0]) (rest := []) ⟨hx, hb, hml, hown, hts⟩ (k_K_needSlot_ok l a0 n3 e_x1) (va_cwS 1 hts (ga_S ww_225 ww_226 ww_1 ww_227) rfl rfl rfl (by decide +kernel) ⟨by decide, by decide⟩) (pcs_pre hN) rfl rfl hl.1 rfl (lv_room (Nat.le_of_ble_eq_true rfl)) d_K_tweak_1 ⟨Nat.zero_le _, Nat.zero_le _⟩).run (fun _ => ?_)
  refine lv_aload_n hx hb d_K_tweak_4 rfl (lv_at hl 0 rfl) ?_
  refine lv_iload_n hx hb d_K_tweak_5 rfl (lv_at hl 1 rfl) ?_
  obtain ⟨x4, e_x4, hF⟩ := Option.bind_eq_some_iff.mp hF
  rcases x4 with ⟨E5, hE5⟩ | ⟨r6, g7⟩
  · have hFc := va_free (wc := wK A cc g0) hD hS hA [0, 1, 2, 3, 4, 5, 6, 7, 8, 9] rfl
    cases hF
    refine vx_calll (vx_runV (As := [.int a0]) (rest := []) ⟨hx, hb, hml, hown, hts⟩ (k_K_pointOf_er l hl0 D A cc g0 a0 _ _ _ e_x4) (cwV 1 hts (ga_V ww_346 ww_348 wp_5 ww_1 ww_349) rfl rfl rfl (by decide +kernel) ⟨by decide, by decide⟩) (pwx_pre (q0 := 0) (ci := 2) hP hK hD hN hX hZ hS hFc rfl rfl) rfl rfl hl.1 rfl (lv_room (Nat.le_of_ble_eq_true rfl)) d_K_tweak_6 ⟨Nat.le_of_ble_eq_true rfl, Nat.le_of_ble_eq_true rfl⟩) hS (fun q _ h => hFc q h) hFc (fun q _ h => hFc q h) (fun E ce q9 u t H1 locs ht hvm hpx hBX hz hk hS hce hcv hcl => ?_) (fun r9 u t H1 locs _ _ hp _ _ _ _ => hp.elim)
    obtain rfl := hpx
    obtain ⟨rfl, hB⟩ := hBX
    obtain ⟨hP, hD⟩ := bw_back hB ht hFc
    exact vx_out (fun x h => (hout x h).elim) hlocks hce hcv hcl (fun t9 ht9 ha9 => ⟨_, rfl, ⟨rfl, by rw [ht9]; exact hP, va_K.moved ha9 hK, hD⟩, hS.F ht9⟩) hS.2.2 (Nat.le_of_ble_eq_true rfl) (Nat.le_of_ble_eq_true rfl)
  have hFc := va_free (wc := wK A cc g0) hD hS hA [0, 1, 2, 3, 4, 5, 6, 7, 8, 9] rfl
  refine va_calll (va_runV (As := [.int a0]) (rest := []) ⟨hx, hb, hml, hown, hts⟩ (k_K_pointOf_ok l D A cc g0 a0 _ (r6, g7) e_x4) (cwV 1 hts (ga_V ww_346 ww_348 wp_5 ww_1 ww_349) rfl rfl rfl (by decide +kernel) ⟨by decide, by decide⟩) (pw_pre (q0 := 0) (ci := 2) hP hK hD hN rfl rfl) rfl rfl hl.1 rfl (lv_room (Nat.le_of_ble_eq_true rfl)) d_K_tweak_6 ⟨Nat.zero_le _, Nat.zero_le _⟩) hS (fun q _ h => hFc q h) hFc (fun r9 u9 t H locs ht hvm hp hB hz1 hk1 hS => ?_)
  obtain ⟨rfl, rfl⟩ := Prod.mk.inj hp.symm
  obtain ⟨hP, hD⟩ := bw_back hB ht hFc
  refine lv_lstore hx hb d_K_tweak_9 hl (by decide) (lv' := [(4, .long r6), (0, .ref (A 0)), (1, .int a0), (2, .int a1), (3, .int a2)]) rfl (fun ls hl => ?_)
  refine lv_iload_n hx hb d_K_tweak_11 rfl (lv_at hl 3 rfl) ?_
  refine lv_i2l (v := Int32.toInt64 a1) hx hb d_K_tweak_12 rfl ?_
  obtain ⟨r8, e_r8, hF⟩ := Option.bind_eq_some_iff.mp hF
  refine vp_callSi (va_runS (As := [.long (Int32.toInt64 a1)]) (rest := []) ⟨hx, hb, hml, hown, hts⟩ (k_S_has l (Int32.toInt64 a1) r8 e_r8) (va_cwS 1 hts (ga_S ww_365 ww_126 ww_9 ww_127) rfl rfl rfl (by decide +kernel) ⟨by decide, by decide⟩) (pcs_pre hN) rfl rfl hl.1 rfl (lv_room (Nat.le_of_ble_eq_true rfl)) d_K_tweak_13 ⟨Nat.zero_le _, Nat.zero_le _⟩).run (fun z9 hz9 => ?_)
  obtain rfl : r8 = z9 := hz9.symm
  obtain ⟨x9, e_x9, hF⟩ := Option.bind_eq_some_iff.mp hF
  rcases x9 with E10 | n11
  · cases hF
    have hFc : ∀ q, fr (Array.size _) q → AA q := fun q h => hA q (Nat.le_trans hS.1 h)
    refine vx_callv (vx_runS (As := [.int r8]) (rest := []) ⟨hx, hb, hml, hown, hts⟩ (k_K_needArgument_er l hl0 r8 _ _ e_x9) (va_cwS 1 hts (ga_S ww_296 ww_297 ww_1 ww_298) rfl rfl rfl (by decide +kernel) ⟨by decide, by decide⟩) (pcx_pre hN hX hZ hS hA) rfl rfl hl.1 rfl (lv_room (Nat.le_of_ble_eq_true rfl)) d_K_tweak_16 ⟨Nat.le_of_ble_eq_true rfl, Nat.le_of_ble_eq_true rfl⟩) hS (fun q _ h => hFc q h) hFc (fun q _ h => hFc q h) (fun E ce q9 u t H1 locs ht hvm hpx hBX hz hk hS hce hcv hcl => ?_) (fun u t H1 locs _ _ hp _ _ _ _ => hp.elim)
    obtain rfl := hBX
    have hk : ∀ q : Nat, q < _ → H1[q]? = _ := fun q h => hk q h (fun z => Nat.lt_irrefl _ (Nat.lt_of_lt_of_le h z))
    have hP := xt_P hP hk
    exact vx_out (fun x h => (hout x h).elim) hlocks hce hcv hcl (fun t9 ht9 ha9 => ⟨_, rfl, ⟨rfl, by rw [ht9]; exact hP, va_K.moved ha9 hK, hD⟩, hS.F ht9⟩) hS.2.2 (Nat.le_of_ble_eq_true rfl) (Nat.le_of_ble_eq_true rfl)
  refine va_csv (va_runS (As := [.int r8]) (rest := []) ⟨hx, hb, hml, hown, hts⟩ (k_K_needArgument_ok l r8 n11 e_x9) (va_cwS 1 hts (ga_S ww_296 ww_297 ww_1 ww_298) rfl rfl rfl (by decide +kernel) ⟨by decide, by decide⟩) (pcs_pre hN) rfl rfl hl.1 rfl (lv_room (Nat.le_of_ble_eq_true rfl)) d_K_tweak_16 ⟨Nat.zero_le _, Nat.zero_le _⟩).run (fun _ => ?_)
  refine lv_iload_n hx hb d_K_tweak_19 rfl (lv_at hl 4 rfl) ?_
  obtain ⟨j12, q14, hF⟩ := Option.bind_eq_some_iff.mp hF
  have k13 : ∀ (H : Heap) (locs : List Loc) (ls : Array Slot), va_P D vwC (wK A cc g7) H → va_D AA (wK A cc g7) → va_S AA s.heap H locs → lv_has ls 8 [(0, .ref (A 0)), (1, .int a0), (2, .int a1), (3, .int a2)] → W p l e rx_K_tweak s m ([Value.ref (A 0), Value.int a0, Value.int a1, Value.int a2] : List Value).toArray below meth c H locs 0 0 (vx_MQ below (va_Ql (fun _ (_ : Unit) => False) (fun _ _ => True) AA) (vx_X (fun u => u = gE) (fun E u t => E = E0 ∧ bw D (wK A cc) (kK cc) AA u t) AA) ([Value.ref (A 0), Value.int a0, Value.int a1, Value.int a2] : List Value).toArray s 1 6 AA) (F0 m 46 ls [.long j12]) := by
    intro H locs ls hP hD hS hl
    refine lv_lstore hx hb d_K_tweak_46 hl (by decide) (lv' := [(6, .long j12), (0, .ref (A 0)), (1, .int a0), (2, .int a1), (3, .int a2)]) rfl (fun ls hl => ?_)
    refine lv_lload hx hb d_K_tweak_48 (lv_at hl 0 rfl) ?_
    refine lv_lconst (v := 0) hx hb d_K_tweak_50 (by decide) ?_
    refine W.lcmp hx hb d_K_tweak_51 ?_
    obtain ⟨j16, q18, hF⟩ := Option.bind_eq_some_iff.mp hF
    have k17 : ∀ (H : Heap) (locs : List Loc) (ls : Array Slot), va_P D vwC (wK A cc g7) H → va_D AA (wK A cc g7) → va_S AA s.heap H locs → lv_has ls 8 [(6, .long j12), (0, .ref (A 0)), (1, .int a0), (2, .int a1), (3, .int a2)] → W p l e rx_K_tweak s m ([Value.ref (A 0), Value.int a0, Value.int a1, Value.int a2] : List Value).toArray below meth c H locs 0 0 (vx_MQ below (va_Ql (fun _ (_ : Unit) => False) (fun _ _ => True) AA) (vx_X (fun u => u = gE) (fun E u t => E = E0 ∧ bw D (wK A cc) (kK cc) AA u t) AA) ([Value.ref (A 0), Value.int a0, Value.int a1, Value.int a2] : List Value).toArray s 1 6 AA) (F0 m 60 ls [.int j16]) := by
      intro H locs ls hP hD hS hl
      obtain ⟨x20, e_x20, hF⟩ := Option.bind_eq_some_iff.mp hF
      rcases x20 with E21 | n22
      · cases hF
        have hFc : ∀ q, fr (Array.size _) q → AA q := fun q h => hA q (Nat.le_trans hS.1 h)
        refine vx_callv (vx_runS (As := [.int j16]) (rest := []) ⟨hx, hb, hml, hown, hts⟩ (k_K_needArgument_er l hl0 j16 _ _ e_x20) (va_cwS 1 hts (ga_S ww_296 ww_297 ww_1 ww_298) rfl rfl rfl (by decide +kernel) ⟨by decide, by decide⟩) (pcx_pre hN hX hZ hS hA) rfl rfl hl.1 rfl (lv_room (Nat.le_of_ble_eq_true rfl)) d_K_tweak_60 ⟨Nat.le_of_ble_eq_true rfl, Nat.le_of_ble_eq_true rfl⟩) hS (fun q _ h => hFc q h) hFc (fun q _ h => hFc q h) (fun E ce q9 u t H1 locs ht hvm hpx hBX hz hk hS hce hcv hcl => ?_) (fun u t H1 locs _ _ hp _ _ _ _ => hp.elim)
        obtain rfl := hBX
        have hk : ∀ q : Nat, q < _ → H1[q]? = _ := fun q h => hk q h (fun z => Nat.lt_irrefl _ (Nat.lt_of_lt_of_le h z))
        have hP := xt_P hP hk
        exact vx_out (fun x h => (hout x h).elim) hlocks hce hcv hcl (fun t9 ht9 ha9 => ⟨_, rfl, ⟨rfl, by rw [ht9]; exact hP, va_K.moved ha9 hK, hD⟩, hS.F ht9⟩) hS.2.2 (Nat.le_of_ble_eq_true rfl) (Nat.le_of_ble_eq_true rfl)
      refine va_csv (va_runS (As := [.int j16]) (rest := []) ⟨hx, hb, hml, hown, hts⟩ (k_K_needArgument_ok l j16 n22 e_x20) (va_cwS 1 hts (ga_S ww_296 ww_297 ww_1 ww_298) rfl rfl rfl (by decide +kernel) ⟨by decide, by decide⟩) (pcs_pre hN) rfl rfl hl.1 rfl (lv_room (Nat.le_of_ble_eq_true rfl)) d_K_tweak_60 ⟨Nat.zero_le _, Nat.zero_le _⟩).run (fun _ => ?_)
      refine lv_aload_n hx hb d_K_tweak_63 rfl (lv_at hl 1 rfl) ?_
      refine lv_iload_n hx hb d_K_tweak_64 rfl (lv_at hl 2 rfl) ?_
      refine lv_lload hx hb d_K_tweak_65 (lv_at hl 0 rfl) ?_
      refine lv_aload_n hx hb d_K_tweak_67 rfl (lv_at hl 1 rfl) ?_
      refine va_get (D := D) (ci := 2) (v := .ref (A 2)) (C := R_K) (T := T_K) (N := 5) hx hb hts in_K hown hK hP 0 rfl rfl 1 (by decide) (hw _ ww_63) (fun _ h9 => h9) rfl d_K_tweak_68 ?_
      refine lv_iload_n hx hb d_K_tweak_71 rfl (lv_at hl 2 rfl) ?_
      by_cases h23 : a0 < 0 ∨ 6 ≤ Int32.toNatClampNeg a0
      · have h0 := (if_pos h23).symm.trans hF; cases h0
      have hF := (if_neg h23).symm.trans hF
      refine va_lald hx hb hK hP 2 1 rfl rfl h23 d_K_tweak_72 ?_
      refine lv_iload_n hx hb d_K_tweak_73 rfl (lv_at hl 3 rfl) ?_
      refine lv_i2l (v := Int32.toInt64 a1) hx hb d_K_tweak_74 rfl ?_
      refine lv_iload_n hx hb d_K_tweak_75 rfl (lv_at hl 4 rfl) ?_
      obtain ⟨r24, e_r24, hF⟩ := Option.bind_eq_some_iff.mp hF
      refine vp_callSl (va_runS (As := [.long (g7.2.1 (Int32.toNatClampNeg a0)), .long (Int32.toInt64 a1), .int a2]) (rest := [.long j12, .int a0, .ref (A 0)]) ⟨hx, hb, hml, hown, hts⟩ (k_K_movedSecret l (g7.2.1 (Int32.toNatClampNeg a0)) (Int32.toInt64 a1) a2 r24 e_r24) (va_cwS 3 hts (ga_S ww_367 ww_368 ww_1 ww_369) rfl rfl rfl (by decide +kernel) ⟨by decide, by decide⟩) (pcs_pre hN) rfl rfl hl.1 rfl (lv_room (Nat.le_of_ble_eq_true rfl)) d_K_tweak_76 ⟨Nat.zero_le _, Nat.zero_le _⟩).run (fun z9 hz9 => ?_)
      obtain rfl : r24 = z9 := hz9.symm
      obtain ⟨⟨r26, g25⟩, e_g25, hF⟩ := Option.bind_eq_some_iff.mp hF
      have hFc := va_free (wc := wK A cc g7) hD hS hA [0, 1, 2, 3, 4, 5, 6, 7, 8, 9] rfl
      refine va_calll (va_runV (As := [.int a0, .long j12, .long r24]) (rest := []) ⟨hx, hb, hml, hown, hts⟩ (k_K_fill l D A cc g7 a0 j12 r24 _ (r26, g25) e_g25) (cwV 3 hts (ga_V ww_316 ww_318 wp_4 ww_1 ww_319) rfl rfl rfl (by decide +kernel) ⟨by decide, by decide⟩) (pw_pre (q0 := 0) (ci := 2) hP hK hD hN rfl rfl) rfl rfl hl.1 rfl (lv_room (Nat.le_of_ble_eq_true rfl)) d_K_tweak_79 ⟨Nat.zero_le _, Nat.zero_le _⟩) hS (fun q _ h => hFc q h) hFc (fun r9 u9 t H locs ht hvm hp hB hz1 hk1 hS => ?_)
      obtain ⟨rfl, rfl⟩ := Prod.mk.inj hp.symm
      obtain ⟨hP, hD⟩ := bw_back hB ht hFc
      cases hF
    clear hF
    have hF := q18
    refine lv_if_eq hx hb d_K_tweak_52 (tgt := 59) (by decide) (fun h9 => ?_) (fun h9 => ?_)
    · have hF := (if_pos h9).symm.trans hF
      refine lv_iconst (v := 0) hx hb d_K_tweak_59 (by decide) ?_
      obtain rfl := Option.some.inj hF
      exact k17 _ _ ls hP hD hS (lv_sub hl [0, 1, 2, 3, 4] rfl)
    · have hF := (if_neg h9).symm.trans hF
      refine lv_iconst (v := 1) hx hb d_K_tweak_55 (by decide) ?_
      refine lv_goto hx hb d_K_tweak_56 (tgt := 60) (by decide) ?_
      obtain rfl := Option.some.inj hF
      exact k17 _ _ ls hP hD hS (lv_sub hl [0, 1, 2, 3, 4] rfl)
  clear hF
  have hF := q14
  refine lv_if_eq hx hb d_K_tweak_20 (tgt := 33) (by decide) (fun h9 => ?_) (fun h9 => ?_)
  · have hF := (if_pos h9).symm.trans hF
    refine lv_lload hx hb d_K_tweak_33 (lv_at hl 0 rfl) ?_
    refine lv_iload_n hx hb d_K_tweak_35 rfl (lv_at hl 3 rfl) ?_
    refine lv_i2l (v := Int32.toInt64 a1) hx hb d_K_tweak_36 rfl ?_
    refine lv_ldc2 (v := 4411025356) hx hb hown (hw _ ww_314) d_K_tweak_37 ?_
    obtain ⟨r28, e_r28, hF⟩ := Option.bind_eq_some_iff.mp hF
    refine vp_callSl (va_runS (As := [.long (Int32.toInt64 a1), .long 4411025356]) (rest := [.long r6]) ⟨hx, hb, hml, hown, hts⟩ (k_C_multiple l (Int32.toInt64 a1) 4411025356 r28 e_r28) (va_cwS 2 hts (ga_S ww_315 ww_152 ww_11 ww_153) rfl rfl rfl (by decide +kernel) ⟨by decide, by decide⟩) (pcs_pre hN) rfl rfl hl.1 rfl (lv_room (Nat.le_of_ble_eq_true rfl)) d_K_tweak_40 ⟨Nat.zero_le _, Nat.zero_le _⟩).run (fun z9 hz9 => ?_)
    obtain rfl : r28 = z9 := hz9.symm
    obtain ⟨r29, e_r29, hF⟩ := Option.bind_eq_some_iff.mp hF
    refine vp_callSl (va_runS (As := [.long r6, .long r28]) (rest := []) ⟨hx, hb, hml, hown, hts⟩ (k_C_sum l r6 r28 r29 e_r29) (va_cwS 2 hts (ga_S ww_366 ww_155 ww_11 ww_156) rfl rfl rfl (by decide +kernel) ⟨by decide, by decide⟩) (pcs_pre hN) rfl rfl hl.1 rfl (lv_room (Nat.le_of_ble_eq_true rfl)) d_K_tweak_43 ⟨Nat.zero_le _, Nat.zero_le _⟩).run (fun z9 hz9 => ?_)
    obtain rfl : r29 = z9 := hz9.symm
    obtain rfl := Option.some.inj hF
    exact k13 _ _ ls hP hD hS (lv_sub hl [1, 2, 3, 4] rfl)
  · have hF := (if_neg h9).symm.trans hF
    refine lv_iload_n hx hb d_K_tweak_23 rfl (lv_at hl 3 rfl) ?_
    refine lv_i2l (v := Int32.toInt64 a1) hx hb d_K_tweak_24 rfl ?_
    refine lv_lload hx hb d_K_tweak_25 (lv_at hl 0 rfl) ?_
    obtain ⟨r30, e_r30, hF⟩ := Option.bind_eq_some_iff.mp hF
    refine vp_callSl (va_runS (As := [.long (Int32.toInt64 a1), .long r6]) (rest := []) ⟨hx, hb, hml, hown, hts⟩ (k_C_multiple l (Int32.toInt64 a1) r6 r30 e_r30) (va_cwS 2 hts (ga_S ww_315 ww_152 ww_11 ww_153) rfl rfl rfl (by decide +kernel) ⟨by decide, by decide⟩) (pcs_pre hN) rfl rfl hl.1 rfl (lv_room (Nat.le_of_ble_eq_true rfl)) d_K_tweak_27 ⟨Nat.zero_le _, Nat.zero_le _⟩).run (fun z9 hz9 => ?_)
    obtain rfl : r30 = z9 := hz9.symm
    refine lv_goto hx hb d_K_tweak_30 (tgt := 46) (by decide) ?_
    obtain rfl := Option.some.inj hF
    exact k13 _ _ ls hP hD hS (lv_sub hl [1, 2, 3, 4] rfl)
def f_K_combine (g0 : sK) (a0 : Int32) (a1 : Int32) (a2 : Int32) : Option (Except (String × sK) (Int64 × sK)) := Option.bind (f_K_needSlot a0) (fun x1 => match x1 with | .error E9 => some (.error (E9, g0)) | .ok _ => (Option.bind (f_K_needSlot a1) (fun x4 => match x4 with | .error E9 => some (.error (E9, g0)) | .ok _ => (Option.bind (f_K_needSlot a2) (fun x7 => match x7 with | .error E9 => some (.error (E9, g0)) | .ok _ => (Option.bind (f_K_pointOf g0 a1) (fun x10 => match x10 with | .error E9 => some (.error E9) | .ok (r12, g13) => (Option.bind (f_K_pointOf g13 a2) (fun x14 => match x14 with | .error E9 => some (.error E9) | .ok (r16, g17) => (Option.bind (f_C_sum r12 r16) (fun r18 => Option.bind (if (lg_cmp r18 0) = 0 then (some (0) : Option (Int32)) else (some (1))) (fun j19 => Option.bind (f_K_needArgument j19) (fun x23 => match x23 with | .error E9 => some (.error (E9, g17)) | .ok _ => (Option.bind (f_K_fill g17 a0 r18 0) (fun t28 => match t28 with | (r27, g26) => (some (.ok (r27, g26))))))))))))))))))
abbrev rm_K_combine : Room := { frames := 3, cells := 0, slots := 0, locals := 94 }
abbrev rx_K_combine : Room := { frames := 7, cells := 1, slots := 6, locals := 111 }
set_option maxHeartbeats 4000000 in
set_option maxRecDepth 100000 in
theorem k_K_combine_ok (l : Launch) (D : va_G) (A : Nat → Nat) (cc : Nat → ClassId) (g0 : sK) (a0 : Int32) (a1 : Int32) (a2 : Int32) (sz : Nat) (res : (Int64 × sK)) (hF : f_K_combine g0 a0 a1 a2 = some (.ok res)) : Met l y_K_combine (Cond.code y_K_combine b_K_combine 6 (some .long) :: wa) rm_K_combine (pw D (wK A cc g0) (kK cc) [.ref (A 0), .int a0, .int a1, .int a2] sz) (va_Ql (fun r u => (r, u) = res) (bw D (wK A cc) (kK cc) (va_A (wK A cc g0) sz)) (va_A (wK A cc g0) sz)) 0 0 (va_A (wK A cc g0) sz) := by
  refine Met.ofW (cc := b_K_combine) (maxL := 6) (ret := (some .long)) (by decide) rfl ?_
  intro p e s m args below meth c s₁ B hml hv
  obtain ⟨rfl, hsz, hP, hK, hD0, hN⟩ := hv
  subst hsz
  have hD := hD0.self (sz := s.heap.size)
  generalize hAe : va_A (wK A cc g0) s.heap.size = AA at hD ⊢
  have hx := B.exec
  have hb := B.bytes
  have hr := B.returns
  have hts := atoms_spec (ws := Cond.code y_K_combine b_K_combine 6 (some .long) :: wa) B.pre
  have hw : ∀ w ∈ wa, w.before _ s = true := fun w h => hts w (List.mem_cons_of_mem _ h)
  have hown : s.vm.findClass R_K = some m.cls := findClass_of_methodNamed B.named
  have hlocks := B.notSynchronized
  have hA : ∀ q : Nat, s.heap.size ≤ q → AA q := fun q h => by rw [← hAe]; exact Or.inr h
  have hS : va_S AA s.heap s.heap [] := va_S.rf
  have hl := lv_entry ([.ref (A 0), .int a0, .int a1, .int a2]) (n := 6) (Nat.le_of_ble_eq_true rfl)
  rw [lg_entry_eq]
  generalize (lg_sl ([.ref (A 0), .int a0, .int a1, .int a2]) ++ List.replicate (6 - (lg_sl ([.ref (A 0), .int a0, .int a1, .int a2])).length) Slot.unset).toArray = ls at hl ⊢
  have hl : lv_has ls 6 [(0, .ref (A 0)), (1, .int a0), (2, .int a1), (3, .int a2)] := hl
  unfold f_K_combine at hF
  refine lv_iload_n hx hb d_K_combine_0 rfl (lv_at hl 1 rfl) ?_
  obtain ⟨x1, e_x1, hF⟩ := Option.bind_eq_some_iff.mp hF
  rcases x1 with E2 | n3
  · cases hF
  refine va_csv (va_runS (As := [.int a0]) (rest := []) ⟨hx, hb, hml, hown, hts⟩ (k_K_needSlot_ok l a0 n3 e_x1) (va_cwS 1 hts (ga_S ww_225 ww_226 ww_1 ww_227) rfl rfl rfl (by decide +kernel) ⟨by decide, by decide⟩) (pcs_pre hN) rfl rfl hl.1 rfl (lv_room (Nat.le_of_ble_eq_true rfl)) d_K_combine_1 ⟨Nat.zero_le _, Nat.zero_le _⟩).run (fun _ => ?_)
  refine lv_iload_n hx hb d_K_combine_4 rfl (lv_at hl 2 rfl) ?_
  obtain ⟨x4, e_x4, hF⟩ := Option.bind_eq_some_iff.mp hF
  rcases x4 with E5 | n6
  · cases hF
  refine va_csv (va_runS (As := [.int a1]) (rest := []) ⟨hx, hb, hml, hown, hts⟩ (k_K_needSlot_ok l a1 n6 e_x4) (va_cwS 1 hts (ga_S ww_225 ww_226 ww_1 ww_227) rfl rfl rfl (by decide +kernel) ⟨by decide, by decide⟩) (pcs_pre hN) rfl rfl hl.1 rfl (lv_room (Nat.le_of_ble_eq_true rfl)) d_K_combine_5 ⟨Nat.zero_le _, Nat.zero_le _⟩).run (fun _ => ?_)
  refine lv_iload_n hx hb d_K_combine_8 rfl (lv_at hl 3 rfl) ?_
  obtain ⟨x7, e_x7, hF⟩ := Option.bind_eq_some_iff.mp hF
  rcases x7 with E8 | n9
  · cases hF
  refine va_csv (va_runS (As := [.int a2]) (rest := []) ⟨hx, hb, hml, hown, hts⟩ (k_K_needSlot_ok l a2 n9 e_x7) (va_cwS 1 hts (ga_S ww_225 ww_226 ww_1 ww_227) rfl rfl rfl (by decide +kernel) ⟨by decide, by decide⟩) (pcs_pre hN) rfl rfl hl.1 rfl (lv_room (Nat.le_of_ble_eq_true rfl)) d_K_combine_9 ⟨Nat.zero_le _, Nat.zero_le _⟩).run (fun _ => ?_)
  refine lv_aload_n hx hb d_K_combine_12 rfl (lv_at hl 0 rfl) ?_
  refine lv_iload_n hx hb d_K_combine_13 rfl (lv_at hl 2 rfl) ?_
  obtain ⟨x10, e_x10, hF⟩ := Option.bind_eq_some_iff.mp hF
  rcases x10 with ⟨E11, hE11⟩ | ⟨r12, g13⟩
  · cases hF
  have hFc := va_free (wc := wK A cc g0) hD hS hA [0, 1, 2, 3, 4, 5, 6, 7, 8, 9] rfl
  refine va_calll (va_runV (As := [.int a1]) (rest := []) ⟨hx, hb, hml, hown, hts⟩ (k_K_pointOf_ok l D A cc g0 a1 _ (r12, g13) e_x10) (cwV 1 hts (ga_V ww_346 ww_348 wp_5 ww_1 ww_349) rfl rfl rfl (by decide +kernel) ⟨by decide, by decide⟩) (pw_pre (q0 := 0) (ci := 2) hP hK hD hN rfl rfl) rfl rfl hl.1 rfl (lv_room (Nat.le_of_ble_eq_true rfl)) d_K_combine_14 ⟨Nat.zero_le _, Nat.zero_le _⟩) hS (fun q _ h => hFc q h) hFc (fun r9 u9 t H locs ht hvm hp hB hz1 hk1 hS => ?_)
  obtain ⟨rfl, rfl⟩ := Prod.mk.inj hp.symm
  obtain ⟨hP, hD⟩ := bw_back hB ht hFc
  refine lv_aload_n hx hb d_K_combine_17 rfl (lv_at hl 0 rfl) ?_
  refine lv_iload_n hx hb d_K_combine_18 rfl (lv_at hl 3 rfl) ?_
  obtain ⟨x14, e_x14, hF⟩ := Option.bind_eq_some_iff.mp hF
  rcases x14 with ⟨E15, hE15⟩ | ⟨r16, g17⟩
  · cases hF
  have hFc := va_free (wc := wK A cc g13) hD hS hA [0, 1, 2, 3, 4, 5, 6, 7, 8, 9] rfl
  refine va_calll (va_runV (As := [.int a2]) (rest := [.long r12]) ⟨hx, hb, hml, hown, hts⟩ (k_K_pointOf_ok l D A cc g13 a2 _ (r16, g17) e_x14) (cwV 1 hts (ga_V ww_346 ww_348 wp_5 ww_1 ww_349) rfl rfl rfl (by decide +kernel) ⟨by decide, by decide⟩) (pw_pre (q0 := 0) (ci := 2) hP hK hD hN rfl rfl) rfl rfl hl.1 rfl (lv_room (Nat.le_of_ble_eq_true rfl)) d_K_combine_19 ⟨Nat.zero_le _, Nat.zero_le _⟩) hS (fun q _ h => hFc q h) hFc (fun r9 u9 t H locs ht hvm hp hB hz1 hk1 hS => ?_)
  obtain ⟨rfl, rfl⟩ := Prod.mk.inj hp.symm
  obtain ⟨hP, hD⟩ := bw_back hB ht hFc
  obtain ⟨r18, e_r18, hF⟩ := Option.bind_eq_some_iff.mp hF
  refine vp_callSl (va_runS (As := [.long r12, .long r16]) (rest := []) ⟨hx, hb, hml, hown, hts⟩ (k_C_sum l r12 r16 r18 e_r18) (va_cwS 2 hts (ga_S ww_366 ww_155 ww_11 ww_156) rfl rfl rfl (by decide +kernel) ⟨by decide, by decide⟩) (pcs_pre hN) rfl rfl hl.1 rfl (lv_room (Nat.le_of_ble_eq_true rfl)) d_K_combine_22 ⟨Nat.zero_le _, Nat.zero_le _⟩).run (fun z9 hz9 => ?_)
  obtain rfl : r18 = z9 := hz9.symm
  refine lv_lstore hx hb d_K_combine_25 hl (by decide) (lv' := [(4, .long r18), (0, .ref (A 0)), (1, .int a0), (2, .int a1), (3, .int a2)]) rfl (fun ls hl => ?_)
  refine lv_lload hx hb d_K_combine_27 (lv_at hl 0 rfl) ?_
  refine lv_lconst (v := 0) hx hb d_K_combine_29 (by decide) ?_
  refine W.lcmp hx hb d_K_combine_30 ?_
  obtain ⟨j19, q21, hF⟩ := Option.bind_eq_some_iff.mp hF
  have k20 : ∀ (H : Heap) (locs : List Loc) (ls : Array Slot), va_P D vwC (wK A cc g17) H → va_D AA (wK A cc g17) → va_S AA s.heap H locs → lv_has ls 6 [(4, .long r18), (0, .ref (A 0)), (1, .int a0)] → W p l e rm_K_combine s m ([Value.ref (A 0), Value.int a0, Value.int a1, Value.int a2] : List Value).toArray below meth c H locs 0 0 (MQ below (va_Ql (fun r u => (r, u) = res) (bw D (wK A cc) (kK cc) AA) AA) ([Value.ref (A 0), Value.int a0, Value.int a1, Value.int a2] : List Value).toArray s 0 0 AA) (F0 m 39 ls [.int j19]) := by
    intro H locs ls hP hD hS hl
    obtain ⟨x23, e_x23, hF⟩ := Option.bind_eq_some_iff.mp hF
    rcases x23 with E24 | n25
    · cases hF
    refine va_csv (va_runS (As := [.int j19]) (rest := []) ⟨hx, hb, hml, hown, hts⟩ (k_K_needArgument_ok l j19 n25 e_x23) (va_cwS 1 hts (ga_S ww_296 ww_297 ww_1 ww_298) rfl rfl rfl (by decide +kernel) ⟨by decide, by decide⟩) (pcs_pre hN) rfl rfl hl.1 rfl (lv_room (Nat.le_of_ble_eq_true rfl)) d_K_combine_39 ⟨Nat.zero_le _, Nat.zero_le _⟩).run (fun _ => ?_)
    refine lv_aload_n hx hb d_K_combine_42 rfl (lv_at hl 1 rfl) ?_
    refine lv_iload_n hx hb d_K_combine_43 rfl (lv_at hl 2 rfl) ?_
    refine lv_lload hx hb d_K_combine_44 (lv_at hl 0 rfl) ?_
    refine lv_lconst (v := 0) hx hb d_K_combine_46 (by decide) ?_
    obtain ⟨⟨r27, g26⟩, e_g26, hF⟩ := Option.bind_eq_some_iff.mp hF
    have hFc := va_free (wc := wK A cc g17) hD hS hA [0, 1, 2, 3, 4, 5, 6, 7, 8, 9] rfl
    refine va_calll (va_runV (As := [.int a0, .long r18, .long 0]) (rest := []) ⟨hx, hb, hml, hown, hts⟩ (k_K_fill l D A cc g17 a0 r18 0 _ (r27, g26) e_g26) (cwV 3 hts (ga_V ww_316 ww_318 wp_4 ww_1 ww_319) rfl rfl rfl (by decide +kernel) ⟨by decide, by decide⟩) (pw_pre (q0 := 0) (ci := 2) hP hK hD hN rfl rfl) rfl rfl hl.1 rfl (lv_room (Nat.le_of_ble_eq_true rfl)) d_K_combine_47 ⟨Nat.zero_le _, Nat.zero_le _⟩) hS (fun q _ h => hFc q h) hFc (fun r9 u9 t H locs ht hvm hp hB hz1 hk1 hS => ?_)
    obtain ⟨rfl, rfl⟩ := Prod.mk.inj hp.symm
    obtain ⟨hP, hD⟩ := bw_back hB ht hFc
    cases hF
    exact W.lret hx hb hr (fun t ht hW => ⟨⟨_, _, rfl, rfl, bw_end hP hK hD ht hW⟩, hS.F ht⟩) hS.2.2 d_K_combine_50
  clear hF
  have hF := q21
  refine lv_if_eq hx hb d_K_combine_31 (tgt := 38) (by decide) (fun h9 => ?_) (fun h9 => ?_)
  · have hF := (if_pos h9).symm.trans hF
    refine lv_iconst (v := 0) hx hb d_K_combine_38 (by decide) ?_
    obtain rfl := Option.some.inj hF
    exact k20 _ _ ls hP hD hS (lv_sub hl [0, 1, 2] rfl)
  · have hF := (if_neg h9).symm.trans hF
    refine lv_iconst (v := 1) hx hb d_K_combine_34 (by decide) ?_
    refine lv_goto hx hb d_K_combine_35 (tgt := 39) (by decide) ?_
    obtain rfl := Option.some.inj hF
    exact k20 _ _ ls hP hD hS (lv_sub hl [0, 1, 2] rfl)
set_option maxHeartbeats 4000000 in
set_option maxRecDepth 100000 in
theorem k_K_combine_er (l : Launch) (hl0 : l.stackTraces = false) (D : va_G) (A : Nat → Nat) (cc : Nat → ClassId) (g0 : sK) (a0 : Int32) (a1 : Int32) (a2 : Int32) (sz : Nat) (E0 : String) (gE : sK) (hF : f_K_combine g0 a0 a1 a2 = some (.error (E0, gE))) : vx_Met l y_K_combine (Cond.code y_K_combine b_K_combine 6 (some .long) :: wa) rx_K_combine (pwx D (wK A cc g0) (kK cc) [.ref (A 0), .int a0, .int a1, .int a2] sz) (va_Ql (fun _ (_ : Unit) => False) (fun _ _ => True) (va_A (wK A cc g0) sz)) (vx_X (fun u => u = gE) (fun E u t => E = E0 ∧ bw D (wK A cc) (kK cc) (va_A (wK A cc g0) sz) u t) (va_A (wK A cc g0) sz)) 1 6 (va_A (wK A cc g0) sz) := by
  refine vx_ofW (cc := b_K_combine) (maxL := 6) (ret := (some .long)) (by decide) rfl ?_
  intro p e s m args below meth c s₁ B hml hout hv
  obtain ⟨⟨rfl, hsz, hP, hK, hD0, hN⟩, hX, hZ⟩ := hv
  subst hsz
  have hD := hD0.self (sz := s.heap.size)
  generalize hAe : va_A (wK A cc g0) s.heap.size = AA at hD hZ ⊢
  have hx := B.exec
  have hb := B.bytes
  have hr := B.returns
  have hts := atoms_spec (ws := Cond.code y_K_combine b_K_combine 6 (some .long) :: wa) B.pre
  have hw : ∀ w ∈ wa, w.before _ s = true := fun w h => hts w (List.mem_cons_of_mem _ h)
  have hown : s.vm.findClass R_K = some m.cls := findClass_of_methodNamed B.named
  have hlocks := B.notSynchronized
  have hA : ∀ q : Nat, s.heap.size ≤ q → AA q := fun q h => by rw [← hAe]; exact Or.inr h
  have hS : va_S AA s.heap s.heap [] := va_S.rf
  have hl := lv_entry ([.ref (A 0), .int a0, .int a1, .int a2]) (n := 6) (Nat.le_of_ble_eq_true rfl)
  rw [lg_entry_eq]
  generalize (lg_sl ([.ref (A 0), .int a0, .int a1, .int a2]) ++ List.replicate (6 - (lg_sl ([.ref (A 0), .int a0, .int a1, .int a2])).length) Slot.unset).toArray = ls at hl ⊢
  have hl : lv_has ls 6 [(0, .ref (A 0)), (1, .int a0), (2, .int a1), (3, .int a2)] := hl
  unfold f_K_combine at hF
  refine lv_iload_n hx hb d_K_combine_0 rfl (lv_at hl 1 rfl) ?_
  obtain ⟨x1, e_x1, hF⟩ := Option.bind_eq_some_iff.mp hF
  rcases x1 with E2 | n3
  · cases hF
    have hFc : ∀ q, fr (Array.size _) q → AA q := fun q h => hA q (Nat.le_trans hS.1 h)
    refine vx_callv (vx_runS (As := [.int a0]) (rest := []) ⟨hx, hb, hml, hown, hts⟩ (k_K_needSlot_er l hl0 a0 _ _ e_x1) (va_cwS 1 hts (ga_S ww_225 ww_226 ww_1 ww_227) rfl rfl rfl (by decide +kernel) ⟨by decide, by decide⟩) (pcx_pre hN hX hZ hS hA) rfl rfl hl.1 rfl (lv_room (Nat.le_of_ble_eq_true rfl)) d_K_combine_1 ⟨Nat.le_of_ble_eq_true rfl, Nat.le_of_ble_eq_true rfl⟩) hS (fun q _ h => hFc q h) hFc (fun q _ h => hFc q h) (fun E ce q9 u t H1 locs ht hvm hpx hBX hz hk hS hce hcv hcl => ?_) (fun u t H1 locs _ _ hp _ _ _ _ => hp.elim)
    obtain rfl := hBX
    have hk : ∀ q : Nat, q < _ → H1[q]? = _ := fun q h => hk q h (fun z => Nat.lt_irrefl _ (Nat.lt_of_lt_of_le h z))
    have hP := xt_P hP hk
    exact vx_out (fun x h => (hout x h).elim) hlocks hce hcv hcl (fun t9 ht9 ha9 => ⟨_, rfl, ⟨rfl, by rw [ht9]; exact hP, va_K.moved ha9 hK, hD⟩, hS.F ht9⟩) hS.2.2 (Nat.le_of_ble_eq_true rfl) (Nat.le_of_ble_eq_true rfl)
  refine va_csv (va_runS (As := [.int a0]) (rest := []) ⟨hx, hb, hml, hown, hts⟩ (k_K_needSlot_ok l a0 n3 e_x1) (va_cwS 1 hts (ga_S ww_225 ww_226 ww_1 ww_227) rfl rfl rfl (by decide +kernel) ⟨by decide, by decide⟩) (pcs_pre hN) rfl rfl hl.1 rfl (lv_room (Nat.le_of_ble_eq_true rfl)) d_K_combine_1 ⟨Nat.zero_le _, Nat.zero_le _⟩).run (fun _ => ?_)
  refine lv_iload_n hx hb d_K_combine_4 rfl (lv_at hl 2 rfl) ?_
  obtain ⟨x4, e_x4, hF⟩ := Option.bind_eq_some_iff.mp hF
  rcases x4 with E5 | n6
  · cases hF
    have hFc : ∀ q, fr (Array.size _) q → AA q := fun q h => hA q (Nat.le_trans hS.1 h)
    refine vx_callv (vx_runS (As := [.int a1]) (rest := []) ⟨hx, hb, hml, hown, hts⟩ (k_K_needSlot_er l hl0 a1 _ _ e_x4) (va_cwS 1 hts (ga_S ww_225 ww_226 ww_1 ww_227) rfl rfl rfl (by decide +kernel) ⟨by decide, by decide⟩) (pcx_pre hN hX hZ hS hA) rfl rfl hl.1 rfl (lv_room (Nat.le_of_ble_eq_true rfl)) d_K_combine_5 ⟨Nat.le_of_ble_eq_true rfl, Nat.le_of_ble_eq_true rfl⟩) hS (fun q _ h => hFc q h) hFc (fun q _ h => hFc q h) (fun E ce q9 u t H1 locs ht hvm hpx hBX hz hk hS hce hcv hcl => ?_) (fun u t H1 locs _ _ hp _ _ _ _ => hp.elim)
    obtain rfl := hBX
    have hk : ∀ q : Nat, q < _ → H1[q]? = _ := fun q h => hk q h (fun z => Nat.lt_irrefl _ (Nat.lt_of_lt_of_le h z))
    have hP := xt_P hP hk
    exact vx_out (fun x h => (hout x h).elim) hlocks hce hcv hcl (fun t9 ht9 ha9 => ⟨_, rfl, ⟨rfl, by rw [ht9]; exact hP, va_K.moved ha9 hK, hD⟩, hS.F ht9⟩) hS.2.2 (Nat.le_of_ble_eq_true rfl) (Nat.le_of_ble_eq_true rfl)
  refine va_csv (va_runS (As := [.int a1]) (rest := []) ⟨hx, hb, hml, hown, hts⟩ (k_K_needSlot_ok l a1 n6 e_x4) (va_cwS 1 hts (ga_S ww_225 ww_226 ww_1 ww_227) rfl rfl rfl (by decide +kernel) ⟨by decide, by decide⟩) (pcs_pre hN) rfl rfl hl.1 rfl (lv_room (Nat.le_of_ble_eq_true rfl)) d_K_combine_5 ⟨Nat.zero_le _, Nat.zero_le _⟩).run (fun _ => ?_)
  refine lv_iload_n hx hb d_K_combine_8 rfl (lv_at hl 3 rfl) ?_
  obtain ⟨x7, e_x7, hF⟩ := Option.bind_eq_some_iff.mp hF
  rcases x7 with E8 | n9
  · cases hF
    have hFc : ∀ q, fr (Array.size _) q → AA q := fun q h => hA q (Nat.le_trans hS.1 h)
    refine vx_callv (vx_runS (As := [.int a2]) (rest := []) ⟨hx, hb, hml, hown, hts⟩ (k_K_needSlot_er l hl0 a2 _ _ e_x7) (va_cwS 1 hts (ga_S ww_225 ww_226 ww_1 ww_227) rfl rfl rfl (by decide +kernel) ⟨by decide, by decide⟩) (pcx_pre hN hX hZ hS hA) rfl rfl hl.1 rfl (lv_room (Nat.le_of_ble_eq_true rfl)) d_K_combine_9 ⟨Nat.le_of_ble_eq_true rfl, Nat.le_of_ble_eq_true rfl⟩) hS (fun q _ h => hFc q h) hFc (fun q _ h => hFc q h) (fun E ce q9 u t H1 locs ht hvm hpx hBX hz hk hS hce hcv hcl => ?_) (fun u t H1 locs _ _ hp _ _ _ _ => hp.elim)
    obtain rfl := hBX
    have hk : ∀ q : Nat, q < _ → H1[q]? = _ := fun q h => hk q h (fun z => Nat.lt_irrefl _ (Nat.lt_of_lt_of_le h z))
    have hP := xt_P hP hk
    exact vx_out (fun x h => (hout x h).elim) hlocks hce hcv hcl (fun t9 ht9 ha9 => ⟨_, rfl, ⟨rfl, by rw [ht9]; exact hP, va_K.moved ha9 hK, hD⟩, hS.F ht9⟩) hS.2.2 (Nat.le_of_ble_eq_true rfl) (Nat.le_of_ble_eq_true rfl)
  refine va_csv (va_runS (As := [.int a2]) (rest := []) ⟨hx, hb, hml, hown, hts⟩ (k_K_needSlot_ok l a2 n9 e_x7) (va_cwS 1 hts (ga_S ww_225 ww_226 ww_1 ww_227) rfl rfl rfl (by decide +kernel) ⟨by decide, by decide⟩) (pcs_pre hN) rfl rfl hl.1 rfl (lv_room (Nat.le_of_ble_eq_true rfl)) d_K_combine_9 ⟨Nat.zero_le _, Nat.zero_le _⟩).run (fun _ => ?_)
  refine lv_aload_n hx hb d_K_combine_12 rfl (lv_at hl 0 rfl) ?_
  refine lv_iload_n hx hb d_K_combine_13 rfl (lv_at hl 2 rfl) ?_
  obtain ⟨x10, e_x10, hF⟩ := Option.bind_eq_some_iff.mp hF
  rcases x10 with ⟨E11, hE11⟩ | ⟨r12, g13⟩
  · have hFc := va_free (wc := wK A cc g0) hD hS hA [0, 1, 2, 3, 4, 5, 6, 7, 8, 9] rfl
    cases hF
    refine vx_calll (vx_runV (As := [.int a1]) (rest := []) ⟨hx, hb, hml, hown, hts⟩ (k_K_pointOf_er l hl0 D A cc g0 a1 _ _ _ e_x10) (cwV 1 hts (ga_V ww_346 ww_348 wp_5 ww_1 ww_349) rfl rfl rfl (by decide +kernel) ⟨by decide, by decide⟩) (pwx_pre (q0 := 0) (ci := 2) hP hK hD hN hX hZ hS hFc rfl rfl) rfl rfl hl.1 rfl (lv_room (Nat.le_of_ble_eq_true rfl)) d_K_combine_14 ⟨Nat.le_of_ble_eq_true rfl, Nat.le_of_ble_eq_true rfl⟩) hS (fun q _ h => hFc q h) hFc (fun q _ h => hFc q h) (fun E ce q9 u t H1 locs ht hvm hpx hBX hz hk hS hce hcv hcl => ?_) (fun r9 u t H1 locs _ _ hp _ _ _ _ => hp.elim)
    obtain rfl := hpx
    obtain ⟨rfl, hB⟩ := hBX
    obtain ⟨hP, hD⟩ := bw_back hB ht hFc
    exact vx_out (fun x h => (hout x h).elim) hlocks hce hcv hcl (fun t9 ht9 ha9 => ⟨_, rfl, ⟨rfl, by rw [ht9]; exact hP, va_K.moved ha9 hK, hD⟩, hS.F ht9⟩) hS.2.2 (Nat.le_of_ble_eq_true rfl) (Nat.le_of_ble_eq_true rfl)
  have hFc := va_free (wc := wK A cc g0) hD hS hA [0, 1, 2, 3, 4, 5, 6, 7, 8, 9] rfl
  refine va_calll (va_runV (As := [.int a1]) (rest := []) ⟨hx, hb, hml, hown, hts⟩ (k_K_pointOf_ok l D A cc g0 a1 _ (r12, g13) e_x10) (cwV 1 hts (ga_V ww_346 ww_348 wp_5 ww_1 ww_349) rfl rfl rfl (by decide +kernel) ⟨by decide, by decide⟩) (pw_pre (q0 := 0) (ci := 2) hP hK hD hN rfl rfl) rfl rfl hl.1 rfl (lv_room (Nat.le_of_ble_eq_true rfl)) d_K_combine_14 ⟨Nat.zero_le _, Nat.zero_le _⟩) hS (fun q _ h => hFc q h) hFc (fun r9 u9 t H locs ht hvm hp hB hz1 hk1 hS => ?_)
  obtain ⟨rfl, rfl⟩ := Prod.mk.inj hp.symm
  obtain ⟨hP, hD⟩ := bw_back hB ht hFc
  refine lv_aload_n hx hb d_K_combine_17 rfl (lv_at hl 0 rfl) ?_
  refine lv_iload_n hx hb d_K_combine_18 rfl (lv_at hl 3 rfl) ?_
  obtain ⟨x14, e_x14, hF⟩ := Option.bind_eq_some_iff.mp hF
  rcases x14 with ⟨E15, hE15⟩ | ⟨r16, g17⟩
  · have hFc := va_free (wc := wK A cc g13) hD hS hA [0, 1, 2, 3, 4, 5, 6, 7, 8, 9] rfl
    cases hF
    refine vx_calll (vx_runV (As := [.int a2]) (rest := [.long r12]) ⟨hx, hb, hml, hown, hts⟩ (k_K_pointOf_er l hl0 D A cc g13 a2 _ _ _ e_x14) (cwV 1 hts (ga_V ww_346 ww_348 wp_5 ww_1 ww_349) rfl rfl rfl (by decide +kernel) ⟨by decide, by decide⟩) (pwx_pre (q0 := 0) (ci := 2) hP hK hD hN hX hZ hS hFc rfl rfl) rfl rfl hl.1 rfl (lv_room (Nat.le_of_ble_eq_true rfl)) d_K_combine_19 ⟨Nat.le_of_ble_eq_true rfl, Nat.le_of_ble_eq_true rfl⟩) hS (fun q _ h => hFc q h) hFc (fun q _ h => hFc q h) (fun E ce q9 u t H1 locs ht hvm hpx hBX hz hk hS hce hcv hcl => ?_) (fun r9 u t H1 locs _ _ hp _ _ _ _ => hp.elim)
    obtain rfl := hpx
    obtain ⟨rfl, hB⟩ := hBX
    obtain ⟨hP, hD⟩ := bw_back hB ht hFc
    exact vx_out (fun x h => (hout x h).elim) hlocks hce hcv hcl (fun t9 ht9 ha9 => ⟨_, rfl, ⟨rfl, by rw [ht9]; exact hP, va_K.moved ha9 hK, hD⟩, hS.F ht9⟩) hS.2.2 (Nat.le_of_ble_eq_true rfl) (Nat.le_of_ble_eq_true rfl)
  have hFc := va_free (wc := wK A cc g13) hD hS hA [0, 1, 2, 3, 4, 5, 6, 7, 8, 9] rfl
  refine va_calll (va_runV (As := [.int a2]) (rest := [.long r12]) ⟨hx, hb, hml, hown, hts⟩ (k_K_pointOf_ok l D A cc g13 a2 _ (r16, g17) e_x14) (cwV 1 hts (ga_V ww_346 ww_348 wp_5 ww_1 ww_349) rfl rfl rfl (by decide +kernel) ⟨by decide, by decide⟩) (pw_pre (q0 := 0) (ci := 2) hP hK hD hN rfl rfl) rfl rfl hl.1 rfl (lv_room (Nat.le_of_ble_eq_true rfl)) d_K_combine_19 ⟨Nat.zero_le _, Nat.zero_le _⟩) hS (fun q _ h => hFc q h) hFc (fun r9 u9 t H locs ht hvm hp hB hz1 hk1 hS => ?_)
  obtain ⟨rfl, rfl⟩ := Prod.mk.inj hp.symm
  obtain ⟨hP, hD⟩ := bw_back hB ht hFc
  obtain ⟨r18, e_r18, hF⟩ := Option.bind_eq_some_iff.mp hF
  refine vp_callSl (va_runS (As := [.long r12, .long r16]) (rest := []) ⟨hx, hb, hml, hown, hts⟩ (k_C_sum l r12 r16 r18 e_r18) (va_cwS 2 hts (ga_S ww_366 ww_155 ww_11 ww_156) rfl rfl rfl (by decide +kernel) ⟨by decide, by decide⟩) (pcs_pre hN) rfl rfl hl.1 rfl (lv_room (Nat.le_of_ble_eq_true rfl)) d_K_combine_22 ⟨Nat.zero_le _, Nat.zero_le _⟩).run (fun z9 hz9 => ?_)
  obtain rfl : r18 = z9 := hz9.symm
  refine lv_lstore hx hb d_K_combine_25 hl (by decide) (lv' := [(4, .long r18), (0, .ref (A 0)), (1, .int a0), (2, .int a1), (3, .int a2)]) rfl (fun ls hl => ?_)
  refine lv_lload hx hb d_K_combine_27 (lv_at hl 0 rfl) ?_
  refine lv_lconst (v := 0) hx hb d_K_combine_29 (by decide) ?_
  refine W.lcmp hx hb d_K_combine_30 ?_
  obtain ⟨j19, q21, hF⟩ := Option.bind_eq_some_iff.mp hF
  have k20 : ∀ (H : Heap) (locs : List Loc) (ls : Array Slot), va_P D vwC (wK A cc g17) H → va_D AA (wK A cc g17) → va_S AA s.heap H locs → lv_has ls 6 [(4, .long r18), (0, .ref (A 0)), (1, .int a0)] → W p l e rx_K_combine s m ([Value.ref (A 0), Value.int a0, Value.int a1, Value.int a2] : List Value).toArray below meth c H locs 0 0 (vx_MQ below (va_Ql (fun _ (_ : Unit) => False) (fun _ _ => True) AA) (vx_X (fun u => u = gE) (fun E u t => E = E0 ∧ bw D (wK A cc) (kK cc) AA u t) AA) ([Value.ref (A 0), Value.int a0, Value.int a1, Value.int a2] : List Value).toArray s 1 6 AA) (F0 m 39 ls [.int j19]) := by
    intro H locs ls hP hD hS hl
    obtain ⟨x23, e_x23, hF⟩ := Option.bind_eq_some_iff.mp hF
    rcases x23 with E24 | n25
    · cases hF
      have hFc : ∀ q, fr (Array.size _) q → AA q := fun q h => hA q (Nat.le_trans hS.1 h)
      refine vx_callv (vx_runS (As := [.int j19]) (rest := []) ⟨hx, hb, hml, hown, hts⟩ (k_K_needArgument_er l hl0 j19 _ _ e_x23) (va_cwS 1 hts (ga_S ww_296 ww_297 ww_1 ww_298) rfl rfl rfl (by decide +kernel) ⟨by decide, by decide⟩) (pcx_pre hN hX hZ hS hA) rfl rfl hl.1 rfl (lv_room (Nat.le_of_ble_eq_true rfl)) d_K_combine_39 ⟨Nat.le_of_ble_eq_true rfl, Nat.le_of_ble_eq_true rfl⟩) hS (fun q _ h => hFc q h) hFc (fun q _ h => hFc q h) (fun E ce q9 u t H1 locs ht hvm hpx hBX hz hk hS hce hcv hcl => ?_) (fun u t H1 locs _ _ hp _ _ _ _ => hp.elim)
      obtain rfl := hBX
      have hk : ∀ q : Nat, q < _ → H1[q]? = _ := fun q h => hk q h (fun z => Nat.lt_irrefl _ (Nat.lt_of_lt_of_le h z))
      have hP := xt_P hP hk
      exact vx_out (fun x h => (hout x h).elim) hlocks hce hcv hcl (fun t9 ht9 ha9 => ⟨_, rfl, ⟨rfl, by rw [ht9]; exact hP, va_K.moved ha9 hK, hD⟩, hS.F ht9⟩) hS.2.2 (Nat.le_of_ble_eq_true rfl) (Nat.le_of_ble_eq_true rfl)
    refine va_csv (va_runS (As := [.int j19]) (rest := []) ⟨hx, hb, hml, hown, hts⟩ (k_K_needArgument_ok l j19 n25 e_x23) (va_cwS 1 hts (ga_S ww_296 ww_297 ww_1 ww_298) rfl rfl rfl (by decide +kernel) ⟨by decide, by decide⟩) (pcs_pre hN) rfl rfl hl.1 rfl (lv_room (Nat.le_of_ble_eq_true rfl)) d_K_combine_39 ⟨Nat.zero_le _, Nat.zero_le _⟩).run (fun _ => ?_)
    refine lv_aload_n hx hb d_K_combine_42 rfl (lv_at hl 1 rfl) ?_
    refine lv_iload_n hx hb d_K_combine_43 rfl (lv_at hl 2 rfl) ?_
    refine lv_lload hx hb d_K_combine_44 (lv_at hl 0 rfl) ?_
    refine lv_lconst (v := 0) hx hb d_K_combine_46 (by decide) ?_
    obtain ⟨⟨r27, g26⟩, e_g26, hF⟩ := Option.bind_eq_some_iff.mp hF
    have hFc := va_free (wc := wK A cc g17) hD hS hA [0, 1, 2, 3, 4, 5, 6, 7, 8, 9] rfl
    refine va_calll (va_runV (As := [.int a0, .long r18, .long 0]) (rest := []) ⟨hx, hb, hml, hown, hts⟩ (k_K_fill l D A cc g17 a0 r18 0 _ (r27, g26) e_g26) (cwV 3 hts (ga_V ww_316 ww_318 wp_4 ww_1 ww_319) rfl rfl rfl (by decide +kernel) ⟨by decide, by decide⟩) (pw_pre (q0 := 0) (ci := 2) hP hK hD hN rfl rfl) rfl rfl hl.1 rfl (lv_room (Nat.le_of_ble_eq_true rfl)) d_K_combine_47 ⟨Nat.zero_le _, Nat.zero_le _⟩) hS (fun q _ h => hFc q h) hFc (fun r9 u9 t H locs ht hvm hp hB hz1 hk1 hS => ?_)
    obtain ⟨rfl, rfl⟩ := Prod.mk.inj hp.symm
    obtain ⟨hP, hD⟩ := bw_back hB ht hFc
    cases hF
  clear hF
  have hF := q21
  refine lv_if_eq hx hb d_K_combine_31 (tgt := 38) (by decide) (fun h9 => ?_) (fun h9 => ?_)
  · have hF := (if_pos h9).symm.trans hF
    refine lv_iconst (v := 0) hx hb d_K_combine_38 (by decide) ?_
    obtain rfl := Option.some.inj hF
    exact k20 _ _ ls hP hD hS (lv_sub hl [0, 1, 2] rfl)
  · have hF := (if_neg h9).symm.trans hF
    refine lv_iconst (v := 1) hx hb d_K_combine_34 (by decide) ?_
    refine lv_goto hx hb d_K_combine_35 (tgt := 39) (by decide) ?_
    obtain rfl := Option.some.inj hF
    exact k20 _ _ ls hP hD hS (lv_sub hl [0, 1, 2] rfl)
def f_K_linear (g0 : sK) (a0 : Int32) (a1 : Int32) (a2 : Int32) : Option (Except (String × sK) (Int64 × sK)) := Option.bind (f_K_needSlot a0) (fun x1 => match x1 with | .error E9 => some (.error (E9, g0)) | .ok _ => (Option.bind (f_K_pointOf g0 a0) (fun x4 => match x4 with | .error E9 => some (.error E9) | .ok (r6, g7) => (Option.bind (f_S_has (Int32.toInt64 a1)) (fun r8 => Option.bind (if r8 = 0 then (some (0) : Option (Int32)) else (Option.bind (f_S_has (Int32.toInt64 a2)) (fun r18 => if r18 = 0 then (some (0)) else (some (1))))) (fun j9 => Option.bind (f_K_needArgument j9) (fun x13 => match x13 with | .error E9 => some (.error (E9, g7)) | .ok _ => (Option.bind (f_C_sumOfMultiples (Int32.toInt64 a1) 4411025356 (Int32.toInt64 a2) r6) (fun r16 => Option.bind (f_C_toCode r16) (fun r17 => some (.ok (r17, g7))))))))))))
abbrev rm_K_linear : Room := { frames := 5, cells := 0, slots := 0, locals := 147 }
abbrev rx_K_linear : Room := { frames := 7, cells := 1, slots := 6, locals := 147 }
set_option maxHeartbeats 4000000 in
set_option maxRecDepth 100000 in
theorem k_K_linear_ok (l : Launch) (D : va_G) (A : Nat → Nat) (cc : Nat → ClassId) (g0 : sK) (a0 : Int32) (a1 : Int32) (a2 : Int32) (sz : Nat) (res : (Int64 × sK)) (hF : f_K_linear g0 a0 a1 a2 = some (.ok res)) : Met l y_K_linear (Cond.code y_K_linear b_K_linear 6 (some .long) :: wa) rm_K_linear (pw D (wK A cc g0) (kK cc) [.ref (A 0), .int a0, .int a1, .int a2] sz) (va_Ql (fun r u => (r, u) = res) (bw D (wK A cc) (kK cc) (va_A (wK A cc g0) sz)) (va_A (wK A cc g0) sz)) 0 0 (va_A (wK A cc g0) sz) := by
  refine Met.ofW (cc := b_K_linear) (maxL := 6) (ret := (some .long)) (by decide) rfl ?_
  intro p e s m args below meth c s₁ B hml hv
  obtain ⟨rfl, hsz, hP, hK, hD0, hN⟩ := hv
  subst hsz
  have hD := hD0.self (sz := s.heap.size)
  generalize hAe : va_A (wK A cc g0) s.heap.size = AA at hD ⊢
  have hx := B.exec
  have hb := B.bytes
  have hr := B.returns
  have hts := atoms_spec (ws := Cond.code y_K_linear b_K_linear 6 (some .long) :: wa) B.pre
  have hw : ∀ w ∈ wa, w.before _ s = true := fun w h => hts w (List.mem_cons_of_mem _ h)
  have hown : s.vm.findClass R_K = some m.cls := findClass_of_methodNamed B.named
  have hlocks := B.notSynchronized
  have hA : ∀ q : Nat, s.heap.size ≤ q → AA q := fun q h => by rw [← hAe]; exact Or.inr h
  have hS : va_S AA s.heap s.heap [] := va_S.rf
  have hl := lv_entry ([.ref (A 0), .int a0, .int a1, .int a2]) (n := 6) (Nat.le_of_ble_eq_true rfl)
  rw [lg_entry_eq]
  generalize (lg_sl ([.ref (A 0), .int a0, .int a1, .int a2]) ++ List.replicate (6 - (lg_sl ([.ref (A 0), .int a0, .int a1, .int a2])).length) Slot.unset).toArray = ls at hl ⊢
  have hl : lv_has ls 6 [(0, .ref (A 0)), (1, .int a0), (2, .int a1), (3, .int a2)] := hl
  unfold f_K_linear at hF
  refine lv_iload_n hx hb d_K_linear_0 rfl (lv_at hl 1 rfl) ?_
  obtain ⟨x1, e_x1, hF⟩ := Option.bind_eq_some_iff.mp hF
  rcases x1 with E2 | n3
  · cases hF
  refine va_csv (va_runS (As := [.int a0]) (rest := []) ⟨hx, hb, hml, hown, hts⟩ (k_K_needSlot_ok l a0 n3 e_x1) (va_cwS 1 hts (ga_S ww_225 ww_226 ww_1 ww_227) rfl rfl rfl (by decide +kernel) ⟨by decide, by decide⟩) (pcs_pre hN) rfl rfl hl.1 rfl (lv_room (Nat.le_of_ble_eq_true rfl)) d_K_linear_1 ⟨Nat.zero_le _, Nat.zero_le _⟩).run (fun _ => ?_)
  refine lv_aload_n hx hb d_K_linear_4 rfl (lv_at hl 0 rfl) ?_
  refine lv_iload_n hx hb d_K_linear_5 rfl (lv_at hl 1 rfl) ?_
  obtain ⟨x4, e_x4, hF⟩ := Option.bind_eq_some_iff.mp hF
  rcases x4 with ⟨E5, hE5⟩ | ⟨r6, g7⟩
  · cases hF
  have hFc := va_free (wc := wK A cc g0) hD hS hA [0, 1, 2, 3, 4, 5, 6, 7, 8, 9] rfl
  refine va_calll (va_runV (As := [.int a0]) (rest := []) ⟨hx, hb, hml, hown, hts⟩ (k_K_pointOf_ok l D A cc g0 a0 _ (r6, g7) e_x4) (cwV 1 hts (ga_V ww_346 ww_348 wp_5 ww_1 ww_349) rfl rfl rfl (by decide +kernel) ⟨by decide, by decide⟩) (pw_pre (q0 := 0) (ci := 2) hP hK hD hN rfl rfl) rfl rfl hl.1 rfl (lv_room (Nat.le_of_ble_eq_true rfl)) d_K_linear_6 ⟨Nat.zero_le _, Nat.zero_le _⟩) hS (fun q _ h => hFc q h) hFc (fun r9 u9 t H locs ht hvm hp hB hz1 hk1 hS => ?_)
  obtain ⟨rfl, rfl⟩ := Prod.mk.inj hp.symm
  obtain ⟨hP, hD⟩ := bw_back hB ht hFc
  refine lv_lstore hx hb d_K_linear_9 hl (by decide) (lv' := [(4, .long r6), (0, .ref (A 0)), (1, .int a0), (2, .int a1), (3, .int a2)]) rfl (fun ls hl => ?_)
  refine lv_iload_n hx hb d_K_linear_11 rfl (lv_at hl 3 rfl) ?_
  refine lv_i2l (v := Int32.toInt64 a1) hx hb d_K_linear_12 rfl ?_
  obtain ⟨r8, e_r8, hF⟩ := Option.bind_eq_some_iff.mp hF
  refine vp_callSi (va_runS (As := [.long (Int32.toInt64 a1)]) (rest := []) ⟨hx, hb, hml, hown, hts⟩ (k_S_has l (Int32.toInt64 a1) r8 e_r8) (va_cwS 1 hts (ga_S ww_365 ww_126 ww_9 ww_127) rfl rfl rfl (by decide +kernel) ⟨by decide, by decide⟩) (pcs_pre hN) rfl rfl hl.1 rfl (lv_room (Nat.le_of_ble_eq_true rfl)) d_K_linear_13 ⟨Nat.zero_le _, Nat.zero_le _⟩).run (fun z9 hz9 => ?_)
  obtain rfl : r8 = z9 := hz9.symm
  obtain ⟨j9, q11, hF⟩ := Option.bind_eq_some_iff.mp hF
  have k10 : ∀ (H : Heap) (locs : List Loc) (ls : Array Slot), va_P D vwC (wK A cc g7) H → va_D AA (wK A cc g7) → va_S AA s.heap H locs → lv_has ls 6 [(4, .long r6), (2, .int a1), (3, .int a2)] → W p l e rm_K_linear s m ([Value.ref (A 0), Value.int a0, Value.int a1, Value.int a2] : List Value).toArray below meth c H locs 0 0 (MQ below (va_Ql (fun r u => (r, u) = res) (bw D (wK A cc) (kK cc) AA) AA) ([Value.ref (A 0), Value.int a0, Value.int a1, Value.int a2] : List Value).toArray s 0 0 AA) (F0 m 32 ls [.int j9]) := by
    intro H locs ls hP hD hS hl
    obtain ⟨x13, e_x13, hF⟩ := Option.bind_eq_some_iff.mp hF
    rcases x13 with E14 | n15
    · cases hF
    refine va_csv (va_runS (As := [.int j9]) (rest := []) ⟨hx, hb, hml, hown, hts⟩ (k_K_needArgument_ok l j9 n15 e_x13) (va_cwS 1 hts (ga_S ww_296 ww_297 ww_1 ww_298) rfl rfl rfl (by decide +kernel) ⟨by decide, by decide⟩) (pcs_pre hN) rfl rfl hl.1 rfl (lv_room (Nat.le_of_ble_eq_true rfl)) d_K_linear_32 ⟨Nat.zero_le _, Nat.zero_le _⟩).run (fun _ => ?_)
    refine lv_iload_n hx hb d_K_linear_35 rfl (lv_at hl 1 rfl) ?_
    refine lv_i2l (v := Int32.toInt64 a1) hx hb d_K_linear_36 rfl ?_
    refine lv_ldc2 (v := 4411025356) hx hb hown (hw _ ww_314) d_K_linear_37 ?_
    refine lv_iload_n hx hb d_K_linear_40 rfl (lv_at hl 2 rfl) ?_
    refine lv_i2l (v := Int32.toInt64 a2) hx hb d_K_linear_41 rfl ?_
    refine lv_lload hx hb d_K_linear_42 (lv_at hl 0 rfl) ?_
    obtain ⟨r16, e_r16, hF⟩ := Option.bind_eq_some_iff.mp hF
    refine vp_callSl (va_runS (As := [.long (Int32.toInt64 a1), .long 4411025356, .long (Int32.toInt64 a2), .long r6]) (rest := []) ⟨hx, hb, hml, hown, hts⟩ (k_C_sumOfMultiples l (Int32.toInt64 a1) 4411025356 (Int32.toInt64 a2) r6 r16 e_r16) (va_cwS 4 hts (ga_S ww_384 ww_149 ww_11 ww_150) rfl rfl rfl (by decide +kernel) ⟨by decide, by decide⟩) (pcs_pre hN) rfl rfl hl.1 rfl (lv_room (Nat.le_of_ble_eq_true rfl)) d_K_linear_44 ⟨Nat.zero_le _, Nat.zero_le _⟩).run (fun z9 hz9 => ?_)
    obtain rfl : r16 = z9 := hz9.symm
    obtain ⟨r17, e_r17, hF⟩ := Option.bind_eq_some_iff.mp hF
    refine vp_callSl (va_runS (As := [.long r16]) (rest := []) ⟨hx, hb, hml, hown, hts⟩ (k_C_toCode l r16 r17 e_r17) (va_cwS 1 hts (ga_S ww_109 ww_110 ww_11 ww_111) rfl rfl rfl (by decide +kernel) ⟨by decide, by decide⟩) (pcs_pre hN) rfl rfl hl.1 rfl (lv_room (Nat.le_of_ble_eq_true rfl)) d_K_linear_47 ⟨Nat.zero_le _, Nat.zero_le _⟩).run (fun z9 hz9 => ?_)
    obtain rfl : r17 = z9 := hz9.symm
    cases hF
    exact W.lret hx hb hr (fun t ht hW => ⟨⟨_, _, rfl, rfl, bw_end hP hK hD ht hW⟩, hS.F ht⟩) hS.2.2 d_K_linear_50
  clear hF
  have hF := q11
  refine lv_if_eq hx hb d_K_linear_16 (tgt := 31) (by decide) (fun h9 => ?_) (fun h9 => ?_)
  · have hF := (if_pos h9).symm.trans hF
    refine lv_iconst (v := 0) hx hb d_K_linear_31 (by decide) ?_
    obtain rfl := Option.some.inj hF
    exact k10 _ _ ls hP hD hS (lv_sub hl [0, 3, 4] rfl)
  · have hF := (if_neg h9).symm.trans hF
    refine lv_iload_n hx hb d_K_linear_19 rfl (lv_at hl 4 rfl) ?_
    refine lv_i2l (v := Int32.toInt64 a2) hx hb d_K_linear_20 rfl ?_
    obtain ⟨r18, e_r18, hF⟩ := Option.bind_eq_some_iff.mp hF
    refine vp_callSi (va_runS (As := [.long (Int32.toInt64 a2)]) (rest := []) ⟨hx, hb, hml, hown, hts⟩ (k_S_has l (Int32.toInt64 a2) r18 e_r18) (va_cwS 1 hts (ga_S ww_365 ww_126 ww_9 ww_127) rfl rfl rfl (by decide +kernel) ⟨by decide, by decide⟩) (pcs_pre hN) rfl rfl hl.1 rfl (lv_room (Nat.le_of_ble_eq_true rfl)) d_K_linear_21 ⟨Nat.zero_le _, Nat.zero_le _⟩).run (fun z9 hz9 => ?_)
    obtain rfl : r18 = z9 := hz9.symm
    refine lv_if_eq hx hb d_K_linear_24 (tgt := 31) (by decide) (fun h9 => ?_) (fun h9 => ?_)
    · have hF := (if_pos h9).symm.trans hF
      refine lv_iconst (v := 0) hx hb d_K_linear_31 (by decide) ?_
      obtain rfl := Option.some.inj hF
      exact k10 _ _ ls hP hD hS (lv_sub hl [0, 3, 4] rfl)
    · have hF := (if_neg h9).symm.trans hF
      refine lv_iconst (v := 1) hx hb d_K_linear_27 (by decide) ?_
      refine lv_goto hx hb d_K_linear_28 (tgt := 32) (by decide) ?_
      obtain rfl := Option.some.inj hF
      exact k10 _ _ ls hP hD hS (lv_sub hl [0, 3, 4] rfl)
set_option maxHeartbeats 4000000 in
set_option maxRecDepth 100000 in
theorem k_K_linear_er (l : Launch) (hl0 : l.stackTraces = false) (D : va_G) (A : Nat → Nat) (cc : Nat → ClassId) (g0 : sK) (a0 : Int32) (a1 : Int32) (a2 : Int32) (sz : Nat) (E0 : String) (gE : sK) (hF : f_K_linear g0 a0 a1 a2 = some (.error (E0, gE))) : vx_Met l y_K_linear (Cond.code y_K_linear b_K_linear 6 (some .long) :: wa) rx_K_linear (pwx D (wK A cc g0) (kK cc) [.ref (A 0), .int a0, .int a1, .int a2] sz) (va_Ql (fun _ (_ : Unit) => False) (fun _ _ => True) (va_A (wK A cc g0) sz)) (vx_X (fun u => u = gE) (fun E u t => E = E0 ∧ bw D (wK A cc) (kK cc) (va_A (wK A cc g0) sz) u t) (va_A (wK A cc g0) sz)) 1 6 (va_A (wK A cc g0) sz) := by
  refine vx_ofW (cc := b_K_linear) (maxL := 6) (ret := (some .long)) (by decide) rfl ?_
  intro p e s m args below meth c s₁ B hml hout hv
  obtain ⟨⟨rfl, hsz, hP, hK, hD0, hN⟩, hX, hZ⟩ := hv
  subst hsz
  have hD := hD0.self (sz := s.heap.size)
  generalize hAe : va_A (wK A cc g0) s.heap.size = AA at hD hZ ⊢
  have hx := B.exec
  have hb := B.bytes
  have hr := B.returns
  have hts := atoms_spec (ws := Cond.code y_K_linear b_K_linear 6 (some .long) :: wa) B.pre
  have hw : ∀ w ∈ wa, w.before _ s = true := fun w h => hts w (List.mem_cons_of_mem _ h)
  have hown : s.vm.findClass R_K = some m.cls := findClass_of_methodNamed B.named
  have hlocks := B.notSynchronized
  have hA : ∀ q : Nat, s.heap.size ≤ q → AA q := fun q h => by rw [← hAe]; exact Or.inr h
  have hS : va_S AA s.heap s.heap [] := va_S.rf
  have hl := lv_entry ([.ref (A 0), .int a0, .int a1, .int a2]) (n := 6) (Nat.le_of_ble_eq_true rfl)
  rw [lg_entry_eq]
  generalize (lg_sl ([.ref (A 0), .int a0, .int a1, .int a2]) ++ List.replicate (6 - (lg_sl ([.ref (A 0), .int a0, .int a1, .int a2])).length) Slot.unset).toArray = ls at hl ⊢
  have hl : lv_has ls 6 [(0, .ref (A 0)), (1, .int a0), (2, .int a1), (3, .int a2)] := hl
  unfold f_K_linear at hF
  refine lv_iload_n hx hb d_K_linear_0 rfl (lv_at hl 1 rfl) ?_
  obtain ⟨x1, e_x1, hF⟩ := Option.bind_eq_some_iff.mp hF
  rcases x1 with E2 | n3
  · cases hF
    have hFc : ∀ q, fr (Array.size _) q → AA q := fun q h => hA q (Nat.le_trans hS.1 h)
    refine vx_callv (vx_runS (As := [.int a0]) (rest := []) ⟨hx, hb, hml, hown, hts⟩ (k_K_needSlot_er l hl0 a0 _ _ e_x1) (va_cwS 1 hts (ga_S ww_225 ww_226 ww_1 ww_227) rfl rfl rfl (by decide +kernel) ⟨by decide, by decide⟩) (pcx_pre hN hX hZ hS hA) rfl rfl hl.1 rfl (lv_room (Nat.le_of_ble_eq_true rfl)) d_K_linear_1 ⟨Nat.le_of_ble_eq_true rfl, Nat.le_of_ble_eq_true rfl⟩) hS (fun q _ h => hFc q h) hFc (fun q _ h => hFc q h) (fun E ce q9 u t H1 locs ht hvm hpx hBX hz hk hS hce hcv hcl => ?_) (fun u t H1 locs _ _ hp _ _ _ _ => hp.elim)
    obtain rfl := hBX
    have hk : ∀ q : Nat, q < _ → H1[q]? = _ := fun q h => hk q h (fun z => Nat.lt_irrefl _ (Nat.lt_of_lt_of_le h z))
    have hP := xt_P hP hk
    exact vx_out (fun x h => (hout x h).elim) hlocks hce hcv hcl (fun t9 ht9 ha9 => ⟨_, rfl, ⟨rfl, by rw [ht9]; exact hP, va_K.moved ha9 hK, hD⟩, hS.F ht9⟩) hS.2.2 (Nat.le_of_ble_eq_true rfl) (Nat.le_of_ble_eq_true rfl)
  refine va_csv (va_runS (As := [.int a0]) (rest := []) ⟨hx, hb, hml, hown, hts⟩ (k_K_needSlot_ok l a0 n3 e_x1) (va_cwS 1 hts (ga_S ww_225 ww_226 ww_1 ww_227) rfl rfl rfl (by decide +kernel) ⟨by decide, by decide⟩) (pcs_pre hN) rfl rfl hl.1 rfl (lv_room (Nat.le_of_ble_eq_true rfl)) d_K_linear_1 ⟨Nat.zero_le _, Nat.zero_le _⟩).run (fun _ => ?_)
  refine lv_aload_n hx hb d_K_linear_4 rfl (lv_at hl 0 rfl) ?_
  refine lv_iload_n hx hb d_K_linear_5 rfl (lv_at hl 1 rfl) ?_
  obtain ⟨x4, e_x4, hF⟩ := Option.bind_eq_some_iff.mp hF
  rcases x4 with ⟨E5, hE5⟩ | ⟨r6, g7⟩
  · have hFc := va_free (wc := wK A cc g0) hD hS hA [0, 1, 2, 3, 4, 5, 6, 7, 8, 9] rfl
    cases hF
    refine vx_calll (vx_runV (As := [.int a0]) (rest := []) ⟨hx, hb, hml, hown, hts⟩ (k_K_pointOf_er l hl0 D A cc g0 a0 _ _ _ e_x4) (cwV 1 hts (ga_V ww_346 ww_348 wp_5 ww_1 ww_349) rfl rfl rfl (by decide +kernel) ⟨by decide, by decide⟩) (pwx_pre (q0 := 0) (ci := 2) hP hK hD hN hX hZ hS hFc rfl rfl) rfl rfl hl.1 rfl (lv_room (Nat.le_of_ble_eq_true rfl)) d_K_linear_6 ⟨Nat.le_of_ble_eq_true rfl, Nat.le_of_ble_eq_true rfl⟩) hS (fun q _ h => hFc q h) hFc (fun q _ h => hFc q h) (fun E ce q9 u t H1 locs ht hvm hpx hBX hz hk hS hce hcv hcl => ?_) (fun r9 u t H1 locs _ _ hp _ _ _ _ => hp.elim)
    obtain rfl := hpx
    obtain ⟨rfl, hB⟩ := hBX
    obtain ⟨hP, hD⟩ := bw_back hB ht hFc
    exact vx_out (fun x h => (hout x h).elim) hlocks hce hcv hcl (fun t9 ht9 ha9 => ⟨_, rfl, ⟨rfl, by rw [ht9]; exact hP, va_K.moved ha9 hK, hD⟩, hS.F ht9⟩) hS.2.2 (Nat.le_of_ble_eq_true rfl) (Nat.le_of_ble_eq_true rfl)
  have hFc := va_free (wc := wK A cc g0) hD hS hA [0, 1, 2, 3, 4, 5, 6, 7, 8, 9] rfl
  refine va_calll (va_runV (As := [.int a0]) (rest := []) ⟨hx, hb, hml, hown, hts⟩ (k_K_pointOf_ok l D A cc g0 a0 _ (r6, g7) e_x4) (cwV 1 hts (ga_V ww_346 ww_348 wp_5 ww_1 ww_349) rfl rfl rfl (by decide +kernel) ⟨by decide, by decide⟩) (pw_pre (q0 := 0) (ci := 2) hP hK hD hN rfl rfl) rfl rfl hl.1 rfl (lv_room (Nat.le_of_ble_eq_true rfl)) d_K_linear_6 ⟨Nat.zero_le _, Nat.zero_le _⟩) hS (fun q _ h => hFc q h) hFc (fun r9 u9 t H locs ht hvm hp hB hz1 hk1 hS => ?_)
  obtain ⟨rfl, rfl⟩ := Prod.mk.inj hp.symm
  obtain ⟨hP, hD⟩ := bw_back hB ht hFc
  refine lv_lstore hx hb d_K_linear_9 hl (by decide) (lv' := [(4, .long r6), (0, .ref (A 0)), (1, .int a0), (2, .int a1), (3, .int a2)]) rfl (fun ls hl => ?_)
  refine lv_iload_n hx hb d_K_linear_11 rfl (lv_at hl 3 rfl) ?_
  refine lv_i2l (v := Int32.toInt64 a1) hx hb d_K_linear_12 rfl ?_
  obtain ⟨r8, e_r8, hF⟩ := Option.bind_eq_some_iff.mp hF
  refine vp_callSi (va_runS (As := [.long (Int32.toInt64 a1)]) (rest := []) ⟨hx, hb, hml, hown, hts⟩ (k_S_has l (Int32.toInt64 a1) r8 e_r8) (va_cwS 1 hts (ga_S ww_365 ww_126 ww_9 ww_127) rfl rfl rfl (by decide +kernel) ⟨by decide, by decide⟩) (pcs_pre hN) rfl rfl hl.1 rfl (lv_room (Nat.le_of_ble_eq_true rfl)) d_K_linear_13 ⟨Nat.zero_le _, Nat.zero_le _⟩).run (fun z9 hz9 => ?_)
  obtain rfl : r8 = z9 := hz9.symm
  obtain ⟨j9, q11, hF⟩ := Option.bind_eq_some_iff.mp hF
  have k10 : ∀ (H : Heap) (locs : List Loc) (ls : Array Slot), va_P D vwC (wK A cc g7) H → va_D AA (wK A cc g7) → va_S AA s.heap H locs → lv_has ls 6 [(4, .long r6), (2, .int a1), (3, .int a2)] → W p l e rx_K_linear s m ([Value.ref (A 0), Value.int a0, Value.int a1, Value.int a2] : List Value).toArray below meth c H locs 0 0 (vx_MQ below (va_Ql (fun _ (_ : Unit) => False) (fun _ _ => True) AA) (vx_X (fun u => u = gE) (fun E u t => E = E0 ∧ bw D (wK A cc) (kK cc) AA u t) AA) ([Value.ref (A 0), Value.int a0, Value.int a1, Value.int a2] : List Value).toArray s 1 6 AA) (F0 m 32 ls [.int j9]) := by
    intro H locs ls hP hD hS hl
    obtain ⟨x13, e_x13, hF⟩ := Option.bind_eq_some_iff.mp hF
    rcases x13 with E14 | n15
    · cases hF
      have hFc : ∀ q, fr (Array.size _) q → AA q := fun q h => hA q (Nat.le_trans hS.1 h)
      refine vx_callv (vx_runS (As := [.int j9]) (rest := []) ⟨hx, hb, hml, hown, hts⟩ (k_K_needArgument_er l hl0 j9 _ _ e_x13) (va_cwS 1 hts (ga_S ww_296 ww_297 ww_1 ww_298) rfl rfl rfl (by decide +kernel) ⟨by decide, by decide⟩) (pcx_pre hN hX hZ hS hA) rfl rfl hl.1 rfl (lv_room (Nat.le_of_ble_eq_true rfl)) d_K_linear_32 ⟨Nat.le_of_ble_eq_true rfl, Nat.le_of_ble_eq_true rfl⟩) hS (fun q _ h => hFc q h) hFc (fun q _ h => hFc q h) (fun E ce q9 u t H1 locs ht hvm hpx hBX hz hk hS hce hcv hcl => ?_) (fun u t H1 locs _ _ hp _ _ _ _ => hp.elim)
      obtain rfl := hBX
      have hk : ∀ q : Nat, q < _ → H1[q]? = _ := fun q h => hk q h (fun z => Nat.lt_irrefl _ (Nat.lt_of_lt_of_le h z))
      have hP := xt_P hP hk
      exact vx_out (fun x h => (hout x h).elim) hlocks hce hcv hcl (fun t9 ht9 ha9 => ⟨_, rfl, ⟨rfl, by rw [ht9]; exact hP, va_K.moved ha9 hK, hD⟩, hS.F ht9⟩) hS.2.2 (Nat.le_of_ble_eq_true rfl) (Nat.le_of_ble_eq_true rfl)
    refine va_csv (va_runS (As := [.int j9]) (rest := []) ⟨hx, hb, hml, hown, hts⟩ (k_K_needArgument_ok l j9 n15 e_x13) (va_cwS 1 hts (ga_S ww_296 ww_297 ww_1 ww_298) rfl rfl rfl (by decide +kernel) ⟨by decide, by decide⟩) (pcs_pre hN) rfl rfl hl.1 rfl (lv_room (Nat.le_of_ble_eq_true rfl)) d_K_linear_32 ⟨Nat.zero_le _, Nat.zero_le _⟩).run (fun _ => ?_)
    refine lv_iload_n hx hb d_K_linear_35 rfl (lv_at hl 1 rfl) ?_
    refine lv_i2l (v := Int32.toInt64 a1) hx hb d_K_linear_36 rfl ?_
    refine lv_ldc2 (v := 4411025356) hx hb hown (hw _ ww_314) d_K_linear_37 ?_
    refine lv_iload_n hx hb d_K_linear_40 rfl (lv_at hl 2 rfl) ?_
    refine lv_i2l (v := Int32.toInt64 a2) hx hb d_K_linear_41 rfl ?_
    refine lv_lload hx hb d_K_linear_42 (lv_at hl 0 rfl) ?_
    obtain ⟨r16, e_r16, hF⟩ := Option.bind_eq_some_iff.mp hF
    refine vp_callSl (va_runS (As := [.long (Int32.toInt64 a1), .long 4411025356, .long (Int32.toInt64 a2), .long r6]) (rest := []) ⟨hx, hb, hml, hown, hts⟩ (k_C_sumOfMultiples l (Int32.toInt64 a1) 4411025356 (Int32.toInt64 a2) r6 r16 e_r16) (va_cwS 4 hts (ga_S ww_384 ww_149 ww_11 ww_150) rfl rfl rfl (by decide +kernel) ⟨by decide, by decide⟩) (pcs_pre hN) rfl rfl hl.1 rfl (lv_room (Nat.le_of_ble_eq_true rfl)) d_K_linear_44 ⟨Nat.zero_le _, Nat.zero_le _⟩).run (fun z9 hz9 => ?_)
    obtain rfl : r16 = z9 := hz9.symm
    obtain ⟨r17, e_r17, hF⟩ := Option.bind_eq_some_iff.mp hF
    refine vp_callSl (va_runS (As := [.long r16]) (rest := []) ⟨hx, hb, hml, hown, hts⟩ (k_C_toCode l r16 r17 e_r17) (va_cwS 1 hts (ga_S ww_109 ww_110 ww_11 ww_111) rfl rfl rfl (by decide +kernel) ⟨by decide, by decide⟩) (pcs_pre hN) rfl rfl hl.1 rfl (lv_room (Nat.le_of_ble_eq_true rfl)) d_K_linear_47 ⟨Nat.zero_le _, Nat.zero_le _⟩).run (fun z9 hz9 => ?_)
    obtain rfl : r17 = z9 := hz9.symm
    cases hF
  clear hF
  have hF := q11
  refine lv_if_eq hx hb d_K_linear_16 (tgt := 31) (by decide) (fun h9 => ?_) (fun h9 => ?_)
  · have hF := (if_pos h9).symm.trans hF
    refine lv_iconst (v := 0) hx hb d_K_linear_31 (by decide) ?_
    obtain rfl := Option.some.inj hF
    exact k10 _ _ ls hP hD hS (lv_sub hl [0, 3, 4] rfl)
  · have hF := (if_neg h9).symm.trans hF
    refine lv_iload_n hx hb d_K_linear_19 rfl (lv_at hl 4 rfl) ?_
    refine lv_i2l (v := Int32.toInt64 a2) hx hb d_K_linear_20 rfl ?_
    obtain ⟨r18, e_r18, hF⟩ := Option.bind_eq_some_iff.mp hF
    refine vp_callSi (va_runS (As := [.long (Int32.toInt64 a2)]) (rest := []) ⟨hx, hb, hml, hown, hts⟩ (k_S_has l (Int32.toInt64 a2) r18 e_r18) (va_cwS 1 hts (ga_S ww_365 ww_126 ww_9 ww_127) rfl rfl rfl (by decide +kernel) ⟨by decide, by decide⟩) (pcs_pre hN) rfl rfl hl.1 rfl (lv_room (Nat.le_of_ble_eq_true rfl)) d_K_linear_21 ⟨Nat.zero_le _, Nat.zero_le _⟩).run (fun z9 hz9 => ?_)
    obtain rfl : r18 = z9 := hz9.symm
    refine lv_if_eq hx hb d_K_linear_24 (tgt := 31) (by decide) (fun h9 => ?_) (fun h9 => ?_)
    · have hF := (if_pos h9).symm.trans hF
      refine lv_iconst (v := 0) hx hb d_K_linear_31 (by decide) ?_
      obtain rfl := Option.some.inj hF
      exact k10 _ _ ls hP hD hS (lv_sub hl [0, 3, 4] rfl)
    · have hF := (if_neg h9).symm.trans hF
      refine lv_iconst (v := 1) hx hb d_K_linear_27 (by decide) ?_
      refine lv_goto hx hb d_K_linear_28 (tgt := 32) (by decide) ?_
      obtain rfl := Option.some.inj hF
      exact k10 _ _ ls hP hD hS (lv_sub hl [0, 3, 4] rfl)
def f_K_sign_29 (r6 : Int64) (r8 : Int64) (r9 : Int64) : Nat → sK → Int32 → Option ((Except (String × sK) (Int64 × sK)) ⊕ (sK × Int32))
  | 0, _, _ => none
  | n + 1, g11, u10 => if 64 < u10 then (some (.inr (g11, u10))) else (Option.bind (f_K_mix r9 (Int32.toInt64 u10)) (fun r18 => Option.bind (some ((Int64.toUInt64 r18 >>> ((Int32.toInt64 33).toUInt64 &&& Int64.toUInt64 63)).toInt64)) (fun v19 => Option.bind (f_S_isUnit v19) (fun r20 => if r20 = 0 then (Option.bind (some (u10 + 1)) (fun v21 => f_K_sign_29 r6 r8 r9 n g11 v21)) else (Option.bind (f_C_multiple v19 4411025356) (fun r22 => Option.bind (f_C_xOf r22) (fun r23 => Option.bind (some (r23 - r23 / 1073729077 * 1073729077)) (fun v24 => Option.bind (f_S_quotient (r8 + (v24 * r6)) v19) (fun r25 => if (lg_cmp v24 0) = 0 then (Option.bind (some (u10 + 1)) (fun v26 => f_K_sign_29 r6 r8 r9 n g11 v26)) else (if (lg_cmp r25 0) = 0 then (Option.bind (some (u10 + 1)) (fun v27 => f_K_sign_29 r6 r8 r9 n g11 v27)) else (Option.bind (f_K_markOf r22 r25) (fun r28 => Option.bind (if (lg_cmp r25 536864538) ≤ 0 then (some (r25) : Option (Int64)) else (some (1073729077 - r25))) (fun j29 => some (.inl (.ok ((v24 * 4294967296) + j29, (g11.1, g11.2.1, r28, g11.2.2.2.1, g11.2.2.2.2.1, g11.2.2.2.2.2.1, g11.2.2.2.2.2.2.1, g11.2.2.2.2.2.2.2.1, g11.2.2.2.2.2.2.2.2.1, g11.2.2.2.2.2.2.2.2.2)))))))))))))))))
def f_K_sign (g0 : sK) (a0 : Int32) (a1 : Int64) : Option (Except (String × sK) (Int64 × sK)) := Option.bind (f_K_needSlot a0) (fun x1 => match x1 with | .error E9 => some (.error (E9, g0)) | .ok _ => (Option.bind (f_K_secretOf g0 a0) (fun x4 => match x4 with | .error E9 => some (.error E9) | .ok (r6, g7) => (Option.bind (f_K_digest a1) (fun r8 => Option.bind (f_K_mix r6 r8) (fun r9 => Option.bind (f_K_sign_29 r6 r8 r9 65 g7 1) (fun t34 => match t34 with | .inl r9 => some r9 | .inr (o13, o14) => (some (.error ("java/lang/UnsupportedOperationException", o13))))))))))
abbrev rm_K_sign : Room := { frames := 4, cells := 0, slots := 0, locals := 120 }
abbrev rx_K_sign : Room := { frames := 7, cells := 1, slots := 6, locals := 120 }
set_option maxHeartbeats 4000000 in
set_option maxRecDepth 100000 in
theorem k_K_sign_ok (l : Launch) (D : va_G) (A : Nat → Nat) (cc : Nat → ClassId) (g0 : sK) (a0 : Int32) (a1 : Int64) (sz : Nat) (res : (Int64 × sK)) (hF : f_K_sign g0 a0 a1 = some (.ok res)) : Met l y_K_sign (Cond.code y_K_sign b_K_sign 19 (some .long) :: wa) rm_K_sign (pw D (wK A cc g0) (kK cc) [.ref (A 0), .int a0, .long a1] sz) (va_Ql (fun r u => (r, u) = res) (bw D (wK A cc) (kK cc) (va_A (wK A cc g0) sz)) (va_A (wK A cc g0) sz)) 0 0 (va_A (wK A cc g0) sz) := by
  refine Met.ofW (cc := b_K_sign) (maxL := 19) (ret := (some .long)) (by decide) rfl ?_
  intro p e s m args below meth c s₁ B hml hv
  obtain ⟨rfl, hsz, hP, hK, hD0, hN⟩ := hv
  subst hsz
  have hD := hD0.self (sz := s.heap.size)
  generalize hAe : va_A (wK A cc g0) s.heap.size = AA at hD ⊢
  have hx := B.exec
  have hb := B.bytes
  have hr := B.returns
  have hts := atoms_spec (ws := Cond.code y_K_sign b_K_sign 19 (some .long) :: wa) B.pre
  have hw : ∀ w ∈ wa, w.before _ s = true := fun w h => hts w (List.mem_cons_of_mem _ h)
  have hown : s.vm.findClass R_K = some m.cls := findClass_of_methodNamed B.named
  have hlocks := B.notSynchronized
  have hA : ∀ q : Nat, s.heap.size ≤ q → AA q := fun q h => by rw [← hAe]; exact Or.inr h
  have hS : va_S AA s.heap s.heap [] := va_S.rf
  have hl := lv_entry ([.ref (A 0), .int a0, .long a1]) (n := 19) (Nat.le_of_ble_eq_true rfl)
  rw [lg_entry_eq]
  generalize (lg_sl ([.ref (A 0), .int a0, .long a1]) ++ List.replicate (19 - (lg_sl ([.ref (A 0), .int a0, .long a1])).length) Slot.unset).toArray = ls at hl ⊢
  have hl : lv_has ls 19 [(0, .ref (A 0)), (1, .int a0), (2, .long a1)] := hl
  unfold f_K_sign at hF
  refine lv_iload_n hx hb d_K_sign_0 rfl (lv_at hl 1 rfl) ?_
  obtain ⟨x1, e_x1, hF⟩ := Option.bind_eq_some_iff.mp hF
  rcases x1 with E2 | n3
  · cases hF
  refine va_csv (va_runS (As := [.int a0]) (rest := []) ⟨hx, hb, hml, hown, hts⟩ (k_K_needSlot_ok l a0 n3 e_x1) (va_cwS 1 hts (ga_S ww_225 ww_226 ww_1 ww_227) rfl rfl rfl (by decide +kernel) ⟨by decide, by decide⟩) (pcs_pre hN) rfl rfl hl.1 rfl (lv_room (Nat.le_of_ble_eq_true rfl)) d_K_sign_1 ⟨Nat.zero_le _, Nat.zero_le _⟩).run (fun _ => ?_)
  refine lv_aload_n hx hb d_K_sign_4 rfl (lv_at hl 0 rfl) ?_
  refine lv_iload_n hx hb d_K_sign_5 rfl (lv_at hl 1 rfl) ?_
  obtain ⟨x4, e_x4, hF⟩ := Option.bind_eq_some_iff.mp hF
  rcases x4 with ⟨E5, hE5⟩ | ⟨r6, g7⟩
  · cases hF
  have hFc := va_free (wc := wK A cc g0) hD hS hA [0, 1, 2, 3, 4, 5, 6, 7, 8, 9] rfl
  refine va_calll (va_runV (As := [.int a0]) (rest := []) ⟨hx, hb, hml, hown, hts⟩ (k_K_secretOf_ok l D A cc g0 a0 _ (r6, g7) e_x4) (cwV 1 hts (ga_V ww_394 ww_396 wp_6 ww_1 ww_397) rfl rfl rfl (by decide +kernel) ⟨by decide, by decide⟩) (pw_pre (q0 := 0) (ci := 2) hP hK hD hN rfl rfl) rfl rfl hl.1 rfl (lv_room (Nat.le_of_ble_eq_true rfl)) d_K_sign_6 ⟨Nat.zero_le _, Nat.zero_le _⟩) hS (fun q _ h => hFc q h) hFc (fun r9 u9 t H locs ht hvm hp hB hz1 hk1 hS => ?_)
  obtain ⟨rfl, rfl⟩ := Prod.mk.inj hp.symm
  obtain ⟨hP, hD⟩ := bw_back hB ht hFc
  refine lv_lstore hx hb d_K_sign_9 hl (by decide) (lv' := [(4, .long r6), (0, .ref (A 0)), (1, .int a0), (2, .long a1)]) rfl (fun ls hl => ?_)
  refine lv_lload_n hx hb d_K_sign_11 rfl (lv_at hl 3 rfl) ?_
  obtain ⟨r8, e_r8, hF⟩ := Option.bind_eq_some_iff.mp hF
  refine vp_callSl (va_runS (As := [.long a1]) (rest := []) ⟨hx, hb, hml, hown, hts⟩ (k_K_digest l a1 r8 e_r8) (va_cwS 1 hts (ga_S ww_413 ww_414 ww_1 ww_415) rfl rfl rfl (by decide +kernel) ⟨by decide, by decide⟩) (pcs_pre hN) rfl rfl hl.1 rfl (lv_room (Nat.le_of_ble_eq_true rfl)) d_K_sign_12 ⟨Nat.zero_le _, Nat.zero_le _⟩).run (fun z9 hz9 => ?_)
  obtain rfl : r8 = z9 := hz9.symm
  refine lv_lstore hx hb d_K_sign_15 hl (by decide) (lv' := [(6, .long r8), (4, .long r6), (0, .ref (A 0)), (1, .int a0), (2, .long a1)]) rfl (fun ls hl => ?_)
  refine lv_lload hx hb d_K_sign_17 (lv_at hl 1 rfl) ?_
  refine lv_lload hx hb d_K_sign_19 (lv_at hl 0 rfl) ?_
  obtain ⟨r9, e_r9, hF⟩ := Option.bind_eq_some_iff.mp hF
  refine vp_callSl (va_runS (As := [.long r6, .long r8]) (rest := []) ⟨hx, hb, hml, hown, hts⟩ (k_K_mix l r6 r8 r9 e_r9) (va_cwS 2 hts (ga_S ww_145 ww_133 ww_1 ww_134) rfl rfl rfl (by decide +kernel) ⟨by decide, by decide⟩) (pcs_pre hN) rfl rfl hl.1 rfl (lv_room (Nat.le_of_ble_eq_true rfl)) d_K_sign_21 ⟨Nat.zero_le _, Nat.zero_le _⟩).run (fun z9 hz9 => ?_)
  obtain rfl : r9 = z9 := hz9.symm
  refine lv_lstore hx hb d_K_sign_24 hl (by decide) (lv' := [(8, .long r9), (6, .long r8), (4, .long r6), (0, .ref (A 0)), (1, .int a0), (2, .long a1)]) rfl (fun ls hl => ?_)
  refine lv_iconst (v := 1) hx hb d_K_sign_26 (by decide) ?_
  refine lv_istore hx hb d_K_sign_27 hl (by decide) (lv' := [(10, .int 1), (8, .long r9), (6, .long r8), (4, .long r6), (0, .ref (A 0)), (1, .int a0), (2, .long a1)]) rfl (fun ls hl => ?_)
  obtain ⟨x17, q33, hF⟩ := Option.bind_eq_some_iff.mp hF
  have k16 : ∀ r9, x17 = .inl r9 → (.ok res) = r9 := by
    intro r9 h9
    subst h9
    exact (Option.some.inj hF).symm
  have k15 : ∀ (o13 : sK) (o14 : Int32), x17 = .inr (o13, o14) → ∀ (H : Heap) (locs : List Loc) (ls : Array Slot), va_P D vwC (wK A cc o13) H → va_D AA (wK A cc o13) → va_S AA s.heap H locs → lv_has ls 19 [(10, .int o14), (8, .long r9), (6, .long r8), (4, .long r6), (0, .ref (A 0))] → W p l e rm_K_sign s m ([Value.ref (A 0), Value.int a0, Value.long a1] : List Value).toArray below meth c H locs 0 0 (MQ below (va_Ql (fun r u => (r, u) = res) (bw D (wK A cc) (kK cc) AA) AA) ([Value.ref (A 0), Value.int a0, Value.long a1] : List Value).toArray s 0 0 AA) (F0 m 152 ls []) := by
    intro o13 o14 h9 H locs ls hP hD hS hl
    subst h9
    cases hF
  clear hF
  have k12 : ∀ (n : Nat) (g11 : sK) (u10 : Int32) (H : Heap) (locs : List Loc) (ls : Array Slot), va_P D vwC (wK A cc g11) H → va_D AA (wK A cc g11) → va_S AA s.heap H locs → lv_has ls 19 [(10, .int u10), (8, .long r9), (6, .long r8), (4, .long r6), (0, .ref (A 0))] → f_K_sign_29 r6 r8 r9 n g11 u10 = some x17 → W p l e rm_K_sign s m ([Value.ref (A 0), Value.int a0, Value.long a1] : List Value).toArray below meth c H locs 0 0 (MQ below (va_Ql (fun r u => (r, u) = res) (bw D (wK A cc) (kK cc) AA) AA) ([Value.ref (A 0), Value.int a0, Value.long a1] : List Value).toArray s 0 0 AA) (F0 m 29 ls []) := by
    intro n
    induction n with
    | zero => intro g11 u10 H locs ls hP hD hS hl hF; cases hF
    | succ n ih =>
      intro g11 u10 H locs ls hP hD hS hl hF
      rw [f_K_sign_29] at hF
      refine lv_iload hx hb d_K_sign_29 (lv_at hl 0 rfl) ?_
      refine lv_bipush (v := 64) hx hb d_K_sign_31 (by decide) ?_
      refine lv_icmp_gt hx hb d_K_sign_33 (tgt := 152) (by decide) (fun h9 => ?_) (fun h9 => ?_)
      · have hF := (if_pos h9).symm.trans hF
        exact k15 g11 u10 (Option.some.inj hF).symm _ _ ls hP hD hS (lv_sub hl [0, 1, 2, 3, 4] rfl)
      · have hF := (if_neg h9).symm.trans hF
        refine lv_lload hx hb d_K_sign_36 (lv_at hl 1 rfl) ?_
        refine lv_iload hx hb d_K_sign_38 (lv_at hl 0 rfl) ?_
        refine lv_i2l (v := Int32.toInt64 u10) hx hb d_K_sign_40 rfl ?_
        obtain ⟨r18, e_r18, hF⟩ := Option.bind_eq_some_iff.mp hF
        refine vp_callSl (va_runS (As := [.long r9, .long (Int32.toInt64 u10)]) (rest := []) ⟨hx, hb, hml, hown, hts⟩ (k_K_mix l r9 (Int32.toInt64 u10) r18 e_r18) (va_cwS 2 hts (ga_S ww_145 ww_133 ww_1 ww_134) rfl rfl rfl (by decide +kernel) ⟨by decide, by decide⟩) (pcs_pre hN) rfl rfl hl.1 rfl (lv_room (Nat.le_of_ble_eq_true rfl)) d_K_sign_41 ⟨Nat.zero_le _, Nat.zero_le _⟩).run (fun z9 hz9 => ?_)
        obtain rfl : r18 = z9 := hz9.symm
        refine lv_bipush (v := 33) hx hb d_K_sign_44 (by decide) ?_
        refine lv_lushr (v := (Int64.toUInt64 r18 >>> ((Int32.toInt64 33).toUInt64 &&& Int64.toUInt64 63)).toInt64) hx hb d_K_sign_46 rfl ?_
        obtain ⟨v19, e_v19, hF⟩ := Option.bind_eq_some_iff.mp hF
        refine nm_l (Option.some.inj e_v19) ?_
        refine lv_lstore hx hb d_K_sign_47 hl (by decide) (lv' := [(11, .long v19), (10, .int u10), (8, .long r9), (6, .long r8), (4, .long r6), (0, .ref (A 0))]) rfl (fun ls hl => ?_)
        refine lv_lload hx hb d_K_sign_49 (lv_at hl 0 rfl) ?_
        obtain ⟨r20, e_r20, hF⟩ := Option.bind_eq_some_iff.mp hF
        refine vp_callSi (va_runS (As := [.long v19]) (rest := []) ⟨hx, hb, hml, hown, hts⟩ (k_S_isUnit l v19 r20 e_r20) (va_cwS 1 hts (ga_S ww_293 ww_294 ww_9 ww_295) rfl rfl rfl (by decide +kernel) ⟨by decide, by decide⟩) (pcs_pre hN) rfl rfl hl.1 rfl (lv_room (Nat.le_of_ble_eq_true rfl)) d_K_sign_51 ⟨Nat.zero_le _, Nat.zero_le _⟩).run (fun z9 hz9 => ?_)
        obtain rfl : r20 = z9 := hz9.symm
        refine lv_if_eq hx hb d_K_sign_54 (tgt := 146) (by decide) (fun h9 => ?_) (fun h9 => ?_)
        · have hF := (if_pos h9).symm.trans hF
          obtain ⟨v21, e_v21, hF⟩ := Option.bind_eq_some_iff.mp hF
          refine lv_iinc hx hb d_K_sign_146 hl (k := 1) (v := v21) rfl ((show _ = u10 + 1 from rfl).trans (Option.some.inj e_v21)) (by decide) (lv' := [(10, .int v21), (11, .long v19), (8, .long r9), (6, .long r8), (4, .long r6), (0, .ref (A 0))]) rfl (fun ls hl => ?_)
          refine lv_goto hx hb d_K_sign_149 (tgt := 29) (by decide) ?_
          exact ih g11 v21 _ _ ls hP hD hS (lv_sub hl [0, 2, 3, 4, 5] rfl) hF
        · have hF := (if_neg h9).symm.trans hF
          refine lv_lload hx hb d_K_sign_57 (lv_at hl 0 rfl) ?_
          refine lv_ldc2 (v := 4411025356) hx hb hown (hw _ ww_314) d_K_sign_59 ?_
          obtain ⟨r22, e_r22, hF⟩ := Option.bind_eq_some_iff.mp hF
          refine vp_callSl (va_runS (As := [.long v19, .long 4411025356]) (rest := []) ⟨hx, hb, hml, hown, hts⟩ (k_C_multiple l v19 4411025356 r22 e_r22) (va_cwS 2 hts (ga_S ww_315 ww_152 ww_11 ww_153) rfl rfl rfl (by decide +kernel) ⟨by decide, by decide⟩) (pcs_pre hN) rfl rfl hl.1 rfl (lv_room (Nat.le_of_ble_eq_true rfl)) d_K_sign_62 ⟨Nat.zero_le _, Nat.zero_le _⟩).run (fun z9 hz9 => ?_)
          obtain rfl : r22 = z9 := hz9.symm
          refine lv_lstore hx hb d_K_sign_65 hl (by decide) (lv' := [(13, .long r22), (11, .long v19), (10, .int u10), (8, .long r9), (6, .long r8), (4, .long r6), (0, .ref (A 0))]) rfl (fun ls hl => ?_)
          refine lv_lload hx hb d_K_sign_67 (lv_at hl 0 rfl) ?_
          obtain ⟨r23, e_r23, hF⟩ := Option.bind_eq_some_iff.mp hF
          refine vp_callSl (va_runS (As := [.long r22]) (rest := []) ⟨hx, hb, hml, hown, hts⟩ (k_C_xOf l r22 r23 e_r23) (va_cwS 1 hts (ga_S ww_417 ww_104 ww_11 ww_105) rfl rfl rfl (by decide +kernel) ⟨by decide, by decide⟩) (pcs_pre hN) rfl rfl hl.1 rfl (lv_room (Nat.le_of_ble_eq_true rfl)) d_K_sign_69 ⟨Nat.zero_le _, Nat.zero_le _⟩).run (fun z9 hz9 => ?_)
          obtain rfl : r23 = z9 := hz9.symm
          refine lv_ldc2 (v := 1073729077) hx hb hown (hw _ ww_146) d_K_sign_72 ?_
          refine lv_lrem hx hb d_K_sign_75 (by decide) ?_
          obtain ⟨v24, e_v24, hF⟩ := Option.bind_eq_some_iff.mp hF
          refine nm_l (Option.some.inj e_v24) ?_
          refine lv_lstore hx hb d_K_sign_76 hl (by decide) (lv' := [(15, .long v24), (13, .long r22), (11, .long v19), (10, .int u10), (8, .long r9), (6, .long r8), (4, .long r6), (0, .ref (A 0))]) rfl (fun ls hl => ?_)
          refine lv_lload hx hb d_K_sign_78 (lv_at hl 5 rfl) ?_
          refine lv_lload hx hb d_K_sign_80 (lv_at hl 0 rfl) ?_
          refine lv_lload hx hb d_K_sign_82 (lv_at hl 6 rfl) ?_
          refine lv_lmul hx hb d_K_sign_84 ?_
          refine lv_ladd hx hb d_K_sign_85 ?_
          refine lv_lload hx hb d_K_sign_86 (lv_at hl 2 rfl) ?_
          obtain ⟨r25, e_r25, hF⟩ := Option.bind_eq_some_iff.mp hF
          refine vp_callSl (va_runS (As := [.long (r8 + (v24 * r6)), .long v19]) (rest := []) ⟨hx, hb, hml, hown, hts⟩ (k_S_quotient l (r8 + (v24 * r6)) v19 r25 e_r25) (va_cwS 2 hts (ga_S ww_418 ww_419 ww_9 ww_420) rfl rfl rfl (by decide +kernel) ⟨by decide, by decide⟩) (pcs_pre hN) rfl rfl hl.1 rfl (lv_room (Nat.le_of_ble_eq_true rfl)) d_K_sign_88 ⟨Nat.zero_le _, Nat.zero_le _⟩).run (fun z9 hz9 => ?_)
          obtain rfl : r25 = z9 := hz9.symm
          refine lv_lstore hx hb d_K_sign_91 hl (by decide) (lv' := [(17, .long r25), (15, .long v24), (13, .long r22), (11, .long v19), (10, .int u10), (8, .long r9), (6, .long r8), (4, .long r6), (0, .ref (A 0))]) rfl (fun ls hl => ?_)
          refine lv_lload hx hb d_K_sign_93 (lv_at hl 1 rfl) ?_
          refine lv_lconst (v := 0) hx hb d_K_sign_95 (by decide) ?_
          refine W.lcmp hx hb d_K_sign_96 ?_
          refine lv_if_eq hx hb d_K_sign_97 (tgt := 146) (by decide) (fun h9 => ?_) (fun h9 => ?_)
          · have hF := (if_pos h9).symm.trans hF
            obtain ⟨v26, e_v26, hF⟩ := Option.bind_eq_some_iff.mp hF
            refine lv_iinc hx hb d_K_sign_146 hl (k := 4) (v := v26) rfl ((show _ = u10 + 1 from rfl).trans (Option.some.inj e_v26)) (by decide) (lv' := [(10, .int v26), (17, .long r25), (15, .long v24), (13, .long r22), (11, .long v19), (8, .long r9), (6, .long r8), (4, .long r6), (0, .ref (A 0))]) rfl (fun ls hl => ?_)
            refine lv_goto hx hb d_K_sign_149 (tgt := 29) (by decide) ?_
            exact ih g11 v26 _ _ ls hP hD hS (lv_sub hl [0, 5, 6, 7, 8] rfl) hF
          · have hF := (if_neg h9).symm.trans hF
            refine lv_lload hx hb d_K_sign_100 (lv_at hl 0 rfl) ?_
            refine lv_lconst (v := 0) hx hb d_K_sign_102 (by decide) ?_
            refine W.lcmp hx hb d_K_sign_103 ?_
            refine lv_if_eq hx hb d_K_sign_104 (tgt := 146) (by decide) (fun h9 => ?_) (fun h9 => ?_)
            · have hF := (if_pos h9).symm.trans hF
              obtain ⟨v27, e_v27, hF⟩ := Option.bind_eq_some_iff.mp hF
              refine lv_iinc hx hb d_K_sign_146 hl (k := 4) (v := v27) rfl ((show _ = u10 + 1 from rfl).trans (Option.some.inj e_v27)) (by decide) (lv' := [(10, .int v27), (17, .long r25), (15, .long v24), (13, .long r22), (11, .long v19), (8, .long r9), (6, .long r8), (4, .long r6), (0, .ref (A 0))]) rfl (fun ls hl => ?_)
              refine lv_goto hx hb d_K_sign_149 (tgt := 29) (by decide) ?_
              exact ih g11 v27 _ _ ls hP hD hS (lv_sub hl [0, 5, 6, 7, 8] rfl) hF
            · have hF := (if_neg h9).symm.trans hF
              refine lv_aload_n hx hb d_K_sign_107 rfl (lv_at hl 8 rfl) ?_
              refine lv_lload hx hb d_K_sign_108 (lv_at hl 2 rfl) ?_
              refine lv_lload hx hb d_K_sign_110 (lv_at hl 0 rfl) ?_
              obtain ⟨r28, e_r28, hF⟩ := Option.bind_eq_some_iff.mp hF
              refine vp_callSi (va_runS (As := [.long r22, .long r25]) (rest := [.ref (A 0)]) ⟨hx, hb, hml, hown, hts⟩ (k_K_markOf l r22 r25 r28 e_r28) (va_cwS 2 hts (ga_S ww_422 ww_423 ww_1 ww_424) rfl rfl rfl (by decide +kernel) ⟨by decide, by decide⟩) (pcs_pre hN) rfl rfl hl.1 rfl (lv_room (Nat.le_of_ble_eq_true rfl)) d_K_sign_112 ⟨Nat.zero_le _, Nat.zero_le _⟩).run (fun z9 hz9 => ?_)
              obtain rfl : r28 = z9 := hz9.symm
              refine va_put (D := D) (ci := 2) (v := .int r28) (ty := .int) (C := R_K) (T := T_K) (N := 5) hx hb hts in_K ft_K ft_K_ok fn_K hown hK hP hD hS 0 rfl rfl 4 (by decide) (hw _ ww_66) (fun _ h9 => h9) rfl (by decide +kernel) rfl rfl (Nat.le_of_ble_eq_true rfl) d_K_sign_115 (fun H locs hP hD hS => ?_)
              have hP : va_P D vwC (wK A cc (g11.1, g11.2.1, r28, g11.2.2.2.1, g11.2.2.2.2.1, g11.2.2.2.2.2.1, g11.2.2.2.2.2.2.1, g11.2.2.2.2.2.2.2.1, g11.2.2.2.2.2.2.2.2.1, g11.2.2.2.2.2.2.2.2.2)) H := hP
              have hD : va_D AA (wK A cc (g11.1, g11.2.1, r28, g11.2.2.2.1, g11.2.2.2.2.1, g11.2.2.2.2.2.1, g11.2.2.2.2.2.2.1, g11.2.2.2.2.2.2.2.1, g11.2.2.2.2.2.2.2.2.1, g11.2.2.2.2.2.2.2.2.2)) := hD
              refine lv_lload hx hb d_K_sign_118 (lv_at hl 1 rfl) ?_
              refine lv_ldc2 (v := 4294967296) hx hb hown (hw _ ww_143) d_K_sign_120 ?_
              refine lv_lmul hx hb d_K_sign_123 ?_
              refine lv_lload hx hb d_K_sign_124 (lv_at hl 0 rfl) ?_
              refine lv_ldc2 (v := 536864538) hx hb hown (hw _ ww_426) d_K_sign_126 ?_
              refine W.lcmp hx hb d_K_sign_129 ?_
              obtain ⟨j29, q31, hF⟩ := Option.bind_eq_some_iff.mp hF
              have k30 : ∀ (H : Heap) (locs : List Loc) (ls : Array Slot), va_P D vwC (wK A cc (g11.1, g11.2.1, r28, g11.2.2.2.1, g11.2.2.2.2.1, g11.2.2.2.2.2.1, g11.2.2.2.2.2.2.1, g11.2.2.2.2.2.2.2.1, g11.2.2.2.2.2.2.2.2.1, g11.2.2.2.2.2.2.2.2.2)) H → va_D AA (wK A cc (g11.1, g11.2.1, r28, g11.2.2.2.1, g11.2.2.2.2.1, g11.2.2.2.2.2.1, g11.2.2.2.2.2.2.1, g11.2.2.2.2.2.2.2.1, g11.2.2.2.2.2.2.2.2.1, g11.2.2.2.2.2.2.2.2.2)) → va_S AA s.heap H locs → lv_has ls 19 [] → W p l e rm_K_sign s m ([Value.ref (A 0), Value.int a0, Value.long a1] : List Value).toArray below meth c H locs 0 0 (MQ below (va_Ql (fun r u => (r, u) = res) (bw D (wK A cc) (kK cc) AA) AA) ([Value.ref (A 0), Value.int a0, Value.long a1] : List Value).toArray s 0 0 AA) (F0 m 144 ls [.long j29, .long (v24 * 4294967296)]) := by
                intro H locs ls hP hD hS hl
                refine lv_ladd hx hb d_K_sign_144 ?_
                cases k16 _ (Option.some.inj hF).symm
                exact W.lret hx hb hr (fun t ht hW => ⟨⟨_, _, rfl, rfl, bw_end hP hK hD ht hW⟩, hS.F ht⟩) hS.2.2 d_K_sign_145
              clear hF
              have hF := q31
              refine lv_if_le hx hb d_K_sign_130 (tgt := 142) (by decide) (fun h9 => ?_) (fun h9 => ?_)
              · have hF := (if_pos h9).symm.trans hF
                refine lv_lload hx hb d_K_sign_142 (lv_at hl 0 rfl) ?_
                obtain rfl := Option.some.inj hF
                exact k30 _ _ ls hP hD hS (lv_sub hl [] rfl)
              · have hF := (if_neg h9).symm.trans hF
                refine lv_ldc2 (v := 1073729077) hx hb hown (hw _ ww_146) d_K_sign_133 ?_
                refine lv_lload hx hb d_K_sign_136 (lv_at hl 0 rfl) ?_
                refine lv_lsub hx hb d_K_sign_138 ?_
                refine lv_goto hx hb d_K_sign_139 (tgt := 144) (by decide) ?_
                obtain rfl := Option.some.inj hF
                exact k30 _ _ ls hP hD hS (lv_sub hl [] rfl)
  exact k12 65 g7 1 _ _ ls hP hD hS (lv_sub hl [0, 1, 2, 3, 4] rfl) q33
set_option maxHeartbeats 4000000 in
set_option maxRecDepth 100000 in
theorem k_K_sign_er (l : Launch) (hl0 : l.stackTraces = false) (D : va_G) (A : Nat → Nat) (cc : Nat → ClassId) (g0 : sK) (a0 : Int32) (a1 : Int64) (sz : Nat) (E0 : String) (gE : sK) (hF : f_K_sign g0 a0 a1 = some (.error (E0, gE))) : vx_Met l y_K_sign (Cond.code y_K_sign b_K_sign 19 (some .long) :: wa) rx_K_sign (pwx D (wK A cc g0) (kK cc) [.ref (A 0), .int a0, .long a1] sz) (va_Ql (fun _ (_ : Unit) => False) (fun _ _ => True) (va_A (wK A cc g0) sz)) (vx_X (fun u => u = gE) (fun E u t => E = E0 ∧ bw D (wK A cc) (kK cc) (va_A (wK A cc g0) sz) u t) (va_A (wK A cc g0) sz)) 1 6 (va_A (wK A cc g0) sz) := by
  refine vx_ofW (cc := b_K_sign) (maxL := 19) (ret := (some .long)) (by decide) rfl ?_
  intro p e s m args below meth c s₁ B hml hout hv
  obtain ⟨⟨rfl, hsz, hP, hK, hD0, hN⟩, hX, hZ⟩ := hv
  subst hsz
  have hD := hD0.self (sz := s.heap.size)
  generalize hAe : va_A (wK A cc g0) s.heap.size = AA at hD hZ ⊢
  have hx := B.exec
  have hb := B.bytes
  have hr := B.returns
  have hts := atoms_spec (ws := Cond.code y_K_sign b_K_sign 19 (some .long) :: wa) B.pre
  have hw : ∀ w ∈ wa, w.before _ s = true := fun w h => hts w (List.mem_cons_of_mem _ h)
  have hown : s.vm.findClass R_K = some m.cls := findClass_of_methodNamed B.named
  have hlocks := B.notSynchronized
  have hA : ∀ q : Nat, s.heap.size ≤ q → AA q := fun q h => by rw [← hAe]; exact Or.inr h
  have hS : va_S AA s.heap s.heap [] := va_S.rf
  have hl := lv_entry ([.ref (A 0), .int a0, .long a1]) (n := 19) (Nat.le_of_ble_eq_true rfl)
  rw [lg_entry_eq]
  generalize (lg_sl ([.ref (A 0), .int a0, .long a1]) ++ List.replicate (19 - (lg_sl ([.ref (A 0), .int a0, .long a1])).length) Slot.unset).toArray = ls at hl ⊢
  have hl : lv_has ls 19 [(0, .ref (A 0)), (1, .int a0), (2, .long a1)] := hl
  unfold f_K_sign at hF
  refine lv_iload_n hx hb d_K_sign_0 rfl (lv_at hl 1 rfl) ?_
  obtain ⟨x1, e_x1, hF⟩ := Option.bind_eq_some_iff.mp hF
  rcases x1 with E2 | n3
  · cases hF
    have hFc : ∀ q, fr (Array.size _) q → AA q := fun q h => hA q (Nat.le_trans hS.1 h)
    refine vx_callv (vx_runS (As := [.int a0]) (rest := []) ⟨hx, hb, hml, hown, hts⟩ (k_K_needSlot_er l hl0 a0 _ _ e_x1) (va_cwS 1 hts (ga_S ww_225 ww_226 ww_1 ww_227) rfl rfl rfl (by decide +kernel) ⟨by decide, by decide⟩) (pcx_pre hN hX hZ hS hA) rfl rfl hl.1 rfl (lv_room (Nat.le_of_ble_eq_true rfl)) d_K_sign_1 ⟨Nat.le_of_ble_eq_true rfl, Nat.le_of_ble_eq_true rfl⟩) hS (fun q _ h => hFc q h) hFc (fun q _ h => hFc q h) (fun E ce q9 u t H1 locs ht hvm hpx hBX hz hk hS hce hcv hcl => ?_) (fun u t H1 locs _ _ hp _ _ _ _ => hp.elim)
    obtain rfl := hBX
    have hk : ∀ q : Nat, q < _ → H1[q]? = _ := fun q h => hk q h (fun z => Nat.lt_irrefl _ (Nat.lt_of_lt_of_le h z))
    have hP := xt_P hP hk
    exact vx_out (fun x h => (hout x h).elim) hlocks hce hcv hcl (fun t9 ht9 ha9 => ⟨_, rfl, ⟨rfl, by rw [ht9]; exact hP, va_K.moved ha9 hK, hD⟩, hS.F ht9⟩) hS.2.2 (Nat.le_of_ble_eq_true rfl) (Nat.le_of_ble_eq_true rfl)
  refine va_csv (va_runS (As := [.int a0]) (rest := []) ⟨hx, hb, hml, hown, hts⟩ (k_K_needSlot_ok l a0 n3 e_x1) (va_cwS 1 hts (ga_S ww_225 ww_226 ww_1 ww_227) rfl rfl rfl (by decide +kernel) ⟨by decide, by decide⟩) (pcs_pre hN) rfl rfl hl.1 rfl (lv_room (Nat.le_of_ble_eq_true rfl)) d_K_sign_1 ⟨Nat.zero_le _, Nat.zero_le _⟩).run (fun _ => ?_)
  refine lv_aload_n hx hb d_K_sign_4 rfl (lv_at hl 0 rfl) ?_
  refine lv_iload_n hx hb d_K_sign_5 rfl (lv_at hl 1 rfl) ?_
  obtain ⟨x4, e_x4, hF⟩ := Option.bind_eq_some_iff.mp hF
  rcases x4 with ⟨E5, hE5⟩ | ⟨r6, g7⟩
  · have hFc := va_free (wc := wK A cc g0) hD hS hA [0, 1, 2, 3, 4, 5, 6, 7, 8, 9] rfl
    cases hF
    refine vx_calll (vx_runV (As := [.int a0]) (rest := []) ⟨hx, hb, hml, hown, hts⟩ (k_K_secretOf_er l hl0 D A cc g0 a0 _ _ _ e_x4) (cwV 1 hts (ga_V ww_394 ww_396 wp_6 ww_1 ww_397) rfl rfl rfl (by decide +kernel) ⟨by decide, by decide⟩) (pwx_pre (q0 := 0) (ci := 2) hP hK hD hN hX hZ hS hFc rfl rfl) rfl rfl hl.1 rfl (lv_room (Nat.le_of_ble_eq_true rfl)) d_K_sign_6 ⟨Nat.le_of_ble_eq_true rfl, Nat.le_of_ble_eq_true rfl⟩) hS (fun q _ h => hFc q h) hFc (fun q _ h => hFc q h) (fun E ce q9 u t H1 locs ht hvm hpx hBX hz hk hS hce hcv hcl => ?_) (fun r9 u t H1 locs _ _ hp _ _ _ _ => hp.elim)
    obtain rfl := hpx
    obtain ⟨rfl, hB⟩ := hBX
    obtain ⟨hP, hD⟩ := bw_back hB ht hFc
    exact vx_out (fun x h => (hout x h).elim) hlocks hce hcv hcl (fun t9 ht9 ha9 => ⟨_, rfl, ⟨rfl, by rw [ht9]; exact hP, va_K.moved ha9 hK, hD⟩, hS.F ht9⟩) hS.2.2 (Nat.le_of_ble_eq_true rfl) (Nat.le_of_ble_eq_true rfl)
  have hFc := va_free (wc := wK A cc g0) hD hS hA [0, 1, 2, 3, 4, 5, 6, 7, 8, 9] rfl
  refine va_calll (va_runV (As := [.int a0]) (rest := []) ⟨hx, hb, hml, hown, hts⟩ (k_K_secretOf_ok l D A cc g0 a0 _ (r6, g7) e_x4) (cwV 1 hts (ga_V ww_394 ww_396 wp_6 ww_1 ww_397) rfl rfl rfl (by decide +kernel) ⟨by decide, by decide⟩) (pw_pre (q0 := 0) (ci := 2) hP hK hD hN rfl rfl) rfl rfl hl.1 rfl (lv_room (Nat.le_of_ble_eq_true rfl)) d_K_sign_6 ⟨Nat.zero_le _, Nat.zero_le _⟩) hS (fun q _ h => hFc q h) hFc (fun r9 u9 t H locs ht hvm hp hB hz1 hk1 hS => ?_)
  obtain ⟨rfl, rfl⟩ := Prod.mk.inj hp.symm
  obtain ⟨hP, hD⟩ := bw_back hB ht hFc
  refine lv_lstore hx hb d_K_sign_9 hl (by decide) (lv' := [(4, .long r6), (0, .ref (A 0)), (1, .int a0), (2, .long a1)]) rfl (fun ls hl => ?_)
  refine lv_lload_n hx hb d_K_sign_11 rfl (lv_at hl 3 rfl) ?_
  obtain ⟨r8, e_r8, hF⟩ := Option.bind_eq_some_iff.mp hF
  refine vp_callSl (va_runS (As := [.long a1]) (rest := []) ⟨hx, hb, hml, hown, hts⟩ (k_K_digest l a1 r8 e_r8) (va_cwS 1 hts (ga_S ww_413 ww_414 ww_1 ww_415) rfl rfl rfl (by decide +kernel) ⟨by decide, by decide⟩) (pcs_pre hN) rfl rfl hl.1 rfl (lv_room (Nat.le_of_ble_eq_true rfl)) d_K_sign_12 ⟨Nat.zero_le _, Nat.zero_le _⟩).run (fun z9 hz9 => ?_)
  obtain rfl : r8 = z9 := hz9.symm
  refine lv_lstore hx hb d_K_sign_15 hl (by decide) (lv' := [(6, .long r8), (4, .long r6), (0, .ref (A 0)), (1, .int a0), (2, .long a1)]) rfl (fun ls hl => ?_)
  refine lv_lload hx hb d_K_sign_17 (lv_at hl 1 rfl) ?_
  refine lv_lload hx hb d_K_sign_19 (lv_at hl 0 rfl) ?_
  obtain ⟨r9, e_r9, hF⟩ := Option.bind_eq_some_iff.mp hF
  refine vp_callSl (va_runS (As := [.long r6, .long r8]) (rest := []) ⟨hx, hb, hml, hown, hts⟩ (k_K_mix l r6 r8 r9 e_r9) (va_cwS 2 hts (ga_S ww_145 ww_133 ww_1 ww_134) rfl rfl rfl (by decide +kernel) ⟨by decide, by decide⟩) (pcs_pre hN) rfl rfl hl.1 rfl (lv_room (Nat.le_of_ble_eq_true rfl)) d_K_sign_21 ⟨Nat.zero_le _, Nat.zero_le _⟩).run (fun z9 hz9 => ?_)
  obtain rfl : r9 = z9 := hz9.symm
  refine lv_lstore hx hb d_K_sign_24 hl (by decide) (lv' := [(8, .long r9), (6, .long r8), (4, .long r6), (0, .ref (A 0)), (1, .int a0), (2, .long a1)]) rfl (fun ls hl => ?_)
  refine lv_iconst (v := 1) hx hb d_K_sign_26 (by decide) ?_
  refine lv_istore hx hb d_K_sign_27 hl (by decide) (lv' := [(10, .int 1), (8, .long r9), (6, .long r8), (4, .long r6), (0, .ref (A 0)), (1, .int a0), (2, .long a1)]) rfl (fun ls hl => ?_)
  obtain ⟨x17, q33, hF⟩ := Option.bind_eq_some_iff.mp hF
  have k16 : ∀ r9, x17 = .inl r9 → (.error (E0, gE)) = r9 := by
    intro r9 h9
    subst h9
    exact (Option.some.inj hF).symm
  have k15 : ∀ (o13 : sK) (o14 : Int32), x17 = .inr (o13, o14) → ∀ (H : Heap) (locs : List Loc) (ls : Array Slot), va_P D vwC (wK A cc o13) H → va_D AA (wK A cc o13) → va_S AA s.heap H locs → lv_has ls 19 [(10, .int o14), (8, .long r9), (6, .long r8), (4, .long r6), (0, .ref (A 0))] → W p l e rx_K_sign s m ([Value.ref (A 0), Value.int a0, Value.long a1] : List Value).toArray below meth c H locs 0 0 (vx_MQ below (va_Ql (fun _ (_ : Unit) => False) (fun _ _ => True) AA) (vx_X (fun u => u = gE) (fun E u t => E = E0 ∧ bw D (wK A cc) (kK cc) AA u t) AA) ([Value.ref (A 0), Value.int a0, Value.long a1] : List Value).toArray s 1 6 AA) (F0 m 152 ls []) := by
    intro o13 o14 h9 H locs ls hP hD hS hl
    subst h9
    cases hF
    exact vx_throw0 (cls := "java/lang/UnsupportedOperationException") (names := ["java/lang/RuntimeException", "java/lang/Exception"]) (ik := 114) (ic := 116) (A := AA) hx hb hl0 hown (by decide) (by decide) (hw _ ww_427) (hw _ ww_15) (xt_hat hw hX xg_UnsupportedOperationException xn_UnsupportedOperationException) xo_UnsupportedOperationException hZ.1 hZ.2 hS (hl.1.trans hml.symm) d_K_sign_152 d_K_sign_155 d_K_sign_156 d_K_sign_159 (fun x h => (hout x h).elim) (Nat.le_of_ble_eq_true rfl) (Nat.le_of_ble_eq_true rfl) (Nat.le_of_ble_eq_true rfl) (Nat.le_of_ble_eq_true rfl) hlocks (fun t ha hz hk => ⟨_, rfl, ⟨rfl, xt_bw hP hK hD hk ha⟩, xt_F hS hz hk⟩) hS.2.2 (Nat.le_of_ble_eq_true rfl) (Nat.le_of_ble_eq_true rfl)
  clear hF
  have k12 : ∀ (n : Nat) (g11 : sK) (u10 : Int32) (H : Heap) (locs : List Loc) (ls : Array Slot), va_P D vwC (wK A cc g11) H → va_D AA (wK A cc g11) → va_S AA s.heap H locs → lv_has ls 19 [(10, .int u10), (8, .long r9), (6, .long r8), (4, .long r6), (0, .ref (A 0))] → f_K_sign_29 r6 r8 r9 n g11 u10 = some x17 → W p l e rx_K_sign s m ([Value.ref (A 0), Value.int a0, Value.long a1] : List Value).toArray below meth c H locs 0 0 (vx_MQ below (va_Ql (fun _ (_ : Unit) => False) (fun _ _ => True) AA) (vx_X (fun u => u = gE) (fun E u t => E = E0 ∧ bw D (wK A cc) (kK cc) AA u t) AA) ([Value.ref (A 0), Value.int a0, Value.long a1] : List Value).toArray s 1 6 AA) (F0 m 29 ls []) := by
    intro n
    induction n with
    | zero => intro g11 u10 H locs ls hP hD hS hl hF; cases hF
    | succ n ih =>
      intro g11 u10 H locs ls hP hD hS hl hF
      rw [f_K_sign_29] at hF
      refine lv_iload hx hb d_K_sign_29 (lv_at hl 0 rfl) ?_
      refine lv_bipush (v := 64) hx hb d_K_sign_31 (by decide) ?_
      refine lv_icmp_gt hx hb d_K_sign_33 (tgt := 152) (by decide) (fun h9 => ?_) (fun h9 => ?_)
      · have hF := (if_pos h9).symm.trans hF
        exact k15 g11 u10 (Option.some.inj hF).symm _ _ ls hP hD hS (lv_sub hl [0, 1, 2, 3, 4] rfl)
      · have hF := (if_neg h9).symm.trans hF
        refine lv_lload hx hb d_K_sign_36 (lv_at hl 1 rfl) ?_
        refine lv_iload hx hb d_K_sign_38 (lv_at hl 0 rfl) ?_
        refine lv_i2l (v := Int32.toInt64 u10) hx hb d_K_sign_40 rfl ?_
        obtain ⟨r18, e_r18, hF⟩ := Option.bind_eq_some_iff.mp hF
        refine vp_callSl (va_runS (As := [.long r9, .long (Int32.toInt64 u10)]) (rest := []) ⟨hx, hb, hml, hown, hts⟩ (k_K_mix l r9 (Int32.toInt64 u10) r18 e_r18) (va_cwS 2 hts (ga_S ww_145 ww_133 ww_1 ww_134) rfl rfl rfl (by decide +kernel) ⟨by decide, by decide⟩) (pcs_pre hN) rfl rfl hl.1 rfl (lv_room (Nat.le_of_ble_eq_true rfl)) d_K_sign_41 ⟨Nat.zero_le _, Nat.zero_le _⟩).run (fun z9 hz9 => ?_)
        obtain rfl : r18 = z9 := hz9.symm
        refine lv_bipush (v := 33) hx hb d_K_sign_44 (by decide) ?_
        refine lv_lushr (v := (Int64.toUInt64 r18 >>> ((Int32.toInt64 33).toUInt64 &&& Int64.toUInt64 63)).toInt64) hx hb d_K_sign_46 rfl ?_
        obtain ⟨v19, e_v19, hF⟩ := Option.bind_eq_some_iff.mp hF
        refine nm_l (Option.some.inj e_v19) ?_
        refine lv_lstore hx hb d_K_sign_47 hl (by decide) (lv' := [(11, .long v19), (10, .int u10), (8, .long r9), (6, .long r8), (4, .long r6), (0, .ref (A 0))]) rfl (fun ls hl => ?_)
        refine lv_lload hx hb d_K_sign_49 (lv_at hl 0 rfl) ?_
        obtain ⟨r20, e_r20, hF⟩ := Option.bind_eq_some_iff.mp hF
        refine vp_callSi (va_runS (As := [.long v19]) (rest := []) ⟨hx, hb, hml, hown, hts⟩ (k_S_isUnit l v19 r20 e_r20) (va_cwS 1 hts (ga_S ww_293 ww_294 ww_9 ww_295) rfl rfl rfl (by decide +kernel) ⟨by decide, by decide⟩) (pcs_pre hN) rfl rfl hl.1 rfl (lv_room (Nat.le_of_ble_eq_true rfl)) d_K_sign_51 ⟨Nat.zero_le _, Nat.zero_le _⟩).run (fun z9 hz9 => ?_)
        obtain rfl : r20 = z9 := hz9.symm
        refine lv_if_eq hx hb d_K_sign_54 (tgt := 146) (by decide) (fun h9 => ?_) (fun h9 => ?_)
        · have hF := (if_pos h9).symm.trans hF
          obtain ⟨v21, e_v21, hF⟩ := Option.bind_eq_some_iff.mp hF
          refine lv_iinc hx hb d_K_sign_146 hl (k := 1) (v := v21) rfl ((show _ = u10 + 1 from rfl).trans (Option.some.inj e_v21)) (by decide) (lv' := [(10, .int v21), (11, .long v19), (8, .long r9), (6, .long r8), (4, .long r6), (0, .ref (A 0))]) rfl (fun ls hl => ?_)
          refine lv_goto hx hb d_K_sign_149 (tgt := 29) (by decide) ?_
          exact ih g11 v21 _ _ ls hP hD hS (lv_sub hl [0, 2, 3, 4, 5] rfl) hF
        · have hF := (if_neg h9).symm.trans hF
          refine lv_lload hx hb d_K_sign_57 (lv_at hl 0 rfl) ?_
          refine lv_ldc2 (v := 4411025356) hx hb hown (hw _ ww_314) d_K_sign_59 ?_
          obtain ⟨r22, e_r22, hF⟩ := Option.bind_eq_some_iff.mp hF
          refine vp_callSl (va_runS (As := [.long v19, .long 4411025356]) (rest := []) ⟨hx, hb, hml, hown, hts⟩ (k_C_multiple l v19 4411025356 r22 e_r22) (va_cwS 2 hts (ga_S ww_315 ww_152 ww_11 ww_153) rfl rfl rfl (by decide +kernel) ⟨by decide, by decide⟩) (pcs_pre hN) rfl rfl hl.1 rfl (lv_room (Nat.le_of_ble_eq_true rfl)) d_K_sign_62 ⟨Nat.zero_le _, Nat.zero_le _⟩).run (fun z9 hz9 => ?_)
          obtain rfl : r22 = z9 := hz9.symm
          refine lv_lstore hx hb d_K_sign_65 hl (by decide) (lv' := [(13, .long r22), (11, .long v19), (10, .int u10), (8, .long r9), (6, .long r8), (4, .long r6), (0, .ref (A 0))]) rfl (fun ls hl => ?_)
          refine lv_lload hx hb d_K_sign_67 (lv_at hl 0 rfl) ?_
          obtain ⟨r23, e_r23, hF⟩ := Option.bind_eq_some_iff.mp hF
          refine vp_callSl (va_runS (As := [.long r22]) (rest := []) ⟨hx, hb, hml, hown, hts⟩ (k_C_xOf l r22 r23 e_r23) (va_cwS 1 hts (ga_S ww_417 ww_104 ww_11 ww_105) rfl rfl rfl (by decide +kernel) ⟨by decide, by decide⟩) (pcs_pre hN) rfl rfl hl.1 rfl (lv_room (Nat.le_of_ble_eq_true rfl)) d_K_sign_69 ⟨Nat.zero_le _, Nat.zero_le _⟩).run (fun z9 hz9 => ?_)
          obtain rfl : r23 = z9 := hz9.symm
          refine lv_ldc2 (v := 1073729077) hx hb hown (hw _ ww_146) d_K_sign_72 ?_
          refine lv_lrem hx hb d_K_sign_75 (by decide) ?_
          obtain ⟨v24, e_v24, hF⟩ := Option.bind_eq_some_iff.mp hF
          refine nm_l (Option.some.inj e_v24) ?_
          refine lv_lstore hx hb d_K_sign_76 hl (by decide) (lv' := [(15, .long v24), (13, .long r22), (11, .long v19), (10, .int u10), (8, .long r9), (6, .long r8), (4, .long r6), (0, .ref (A 0))]) rfl (fun ls hl => ?_)
          refine lv_lload hx hb d_K_sign_78 (lv_at hl 5 rfl) ?_
          refine lv_lload hx hb d_K_sign_80 (lv_at hl 0 rfl) ?_
          refine lv_lload hx hb d_K_sign_82 (lv_at hl 6 rfl) ?_
          refine lv_lmul hx hb d_K_sign_84 ?_
          refine lv_ladd hx hb d_K_sign_85 ?_
          refine lv_lload hx hb d_K_sign_86 (lv_at hl 2 rfl) ?_
          obtain ⟨r25, e_r25, hF⟩ := Option.bind_eq_some_iff.mp hF
          refine vp_callSl (va_runS (As := [.long (r8 + (v24 * r6)), .long v19]) (rest := []) ⟨hx, hb, hml, hown, hts⟩ (k_S_quotient l (r8 + (v24 * r6)) v19 r25 e_r25) (va_cwS 2 hts (ga_S ww_418 ww_419 ww_9 ww_420) rfl rfl rfl (by decide +kernel) ⟨by decide, by decide⟩) (pcs_pre hN) rfl rfl hl.1 rfl (lv_room (Nat.le_of_ble_eq_true rfl)) d_K_sign_88 ⟨Nat.zero_le _, Nat.zero_le _⟩).run (fun z9 hz9 => ?_)
          obtain rfl : r25 = z9 := hz9.symm
          refine lv_lstore hx hb d_K_sign_91 hl (by decide) (lv' := [(17, .long r25), (15, .long v24), (13, .long r22), (11, .long v19), (10, .int u10), (8, .long r9), (6, .long r8), (4, .long r6), (0, .ref (A 0))]) rfl (fun ls hl => ?_)
          refine lv_lload hx hb d_K_sign_93 (lv_at hl 1 rfl) ?_
          refine lv_lconst (v := 0) hx hb d_K_sign_95 (by decide) ?_
          refine W.lcmp hx hb d_K_sign_96 ?_
          refine lv_if_eq hx hb d_K_sign_97 (tgt := 146) (by decide) (fun h9 => ?_) (fun h9 => ?_)
          · have hF := (if_pos h9).symm.trans hF
            obtain ⟨v26, e_v26, hF⟩ := Option.bind_eq_some_iff.mp hF
            refine lv_iinc hx hb d_K_sign_146 hl (k := 4) (v := v26) rfl ((show _ = u10 + 1 from rfl).trans (Option.some.inj e_v26)) (by decide) (lv' := [(10, .int v26), (17, .long r25), (15, .long v24), (13, .long r22), (11, .long v19), (8, .long r9), (6, .long r8), (4, .long r6), (0, .ref (A 0))]) rfl (fun ls hl => ?_)
            refine lv_goto hx hb d_K_sign_149 (tgt := 29) (by decide) ?_
            exact ih g11 v26 _ _ ls hP hD hS (lv_sub hl [0, 5, 6, 7, 8] rfl) hF
          · have hF := (if_neg h9).symm.trans hF
            refine lv_lload hx hb d_K_sign_100 (lv_at hl 0 rfl) ?_
            refine lv_lconst (v := 0) hx hb d_K_sign_102 (by decide) ?_
            refine W.lcmp hx hb d_K_sign_103 ?_
            refine lv_if_eq hx hb d_K_sign_104 (tgt := 146) (by decide) (fun h9 => ?_) (fun h9 => ?_)
            · have hF := (if_pos h9).symm.trans hF
              obtain ⟨v27, e_v27, hF⟩ := Option.bind_eq_some_iff.mp hF
              refine lv_iinc hx hb d_K_sign_146 hl (k := 4) (v := v27) rfl ((show _ = u10 + 1 from rfl).trans (Option.some.inj e_v27)) (by decide) (lv' := [(10, .int v27), (17, .long r25), (15, .long v24), (13, .long r22), (11, .long v19), (8, .long r9), (6, .long r8), (4, .long r6), (0, .ref (A 0))]) rfl (fun ls hl => ?_)
              refine lv_goto hx hb d_K_sign_149 (tgt := 29) (by decide) ?_
              exact ih g11 v27 _ _ ls hP hD hS (lv_sub hl [0, 5, 6, 7, 8] rfl) hF
            · have hF := (if_neg h9).symm.trans hF
              refine lv_aload_n hx hb d_K_sign_107 rfl (lv_at hl 8 rfl) ?_
              refine lv_lload hx hb d_K_sign_108 (lv_at hl 2 rfl) ?_
              refine lv_lload hx hb d_K_sign_110 (lv_at hl 0 rfl) ?_
              obtain ⟨r28, e_r28, hF⟩ := Option.bind_eq_some_iff.mp hF
              refine vp_callSi (va_runS (As := [.long r22, .long r25]) (rest := [.ref (A 0)]) ⟨hx, hb, hml, hown, hts⟩ (k_K_markOf l r22 r25 r28 e_r28) (va_cwS 2 hts (ga_S ww_422 ww_423 ww_1 ww_424) rfl rfl rfl (by decide +kernel) ⟨by decide, by decide⟩) (pcs_pre hN) rfl rfl hl.1 rfl (lv_room (Nat.le_of_ble_eq_true rfl)) d_K_sign_112 ⟨Nat.zero_le _, Nat.zero_le _⟩).run (fun z9 hz9 => ?_)
              obtain rfl : r28 = z9 := hz9.symm
              refine va_put (D := D) (ci := 2) (v := .int r28) (ty := .int) (C := R_K) (T := T_K) (N := 5) hx hb hts in_K ft_K ft_K_ok fn_K hown hK hP hD hS 0 rfl rfl 4 (by decide) (hw _ ww_66) (fun _ h9 => h9) rfl (by decide +kernel) rfl rfl (Nat.le_of_ble_eq_true rfl) d_K_sign_115 (fun H locs hP hD hS => ?_)
              have hP : va_P D vwC (wK A cc (g11.1, g11.2.1, r28, g11.2.2.2.1, g11.2.2.2.2.1, g11.2.2.2.2.2.1, g11.2.2.2.2.2.2.1, g11.2.2.2.2.2.2.2.1, g11.2.2.2.2.2.2.2.2.1, g11.2.2.2.2.2.2.2.2.2)) H := hP
              have hD : va_D AA (wK A cc (g11.1, g11.2.1, r28, g11.2.2.2.1, g11.2.2.2.2.1, g11.2.2.2.2.2.1, g11.2.2.2.2.2.2.1, g11.2.2.2.2.2.2.2.1, g11.2.2.2.2.2.2.2.2.1, g11.2.2.2.2.2.2.2.2.2)) := hD
              refine lv_lload hx hb d_K_sign_118 (lv_at hl 1 rfl) ?_
              refine lv_ldc2 (v := 4294967296) hx hb hown (hw _ ww_143) d_K_sign_120 ?_
              refine lv_lmul hx hb d_K_sign_123 ?_
              refine lv_lload hx hb d_K_sign_124 (lv_at hl 0 rfl) ?_
              refine lv_ldc2 (v := 536864538) hx hb hown (hw _ ww_426) d_K_sign_126 ?_
              refine W.lcmp hx hb d_K_sign_129 ?_
              obtain ⟨j29, q31, hF⟩ := Option.bind_eq_some_iff.mp hF
              have k30 : ∀ (H : Heap) (locs : List Loc) (ls : Array Slot), va_P D vwC (wK A cc (g11.1, g11.2.1, r28, g11.2.2.2.1, g11.2.2.2.2.1, g11.2.2.2.2.2.1, g11.2.2.2.2.2.2.1, g11.2.2.2.2.2.2.2.1, g11.2.2.2.2.2.2.2.2.1, g11.2.2.2.2.2.2.2.2.2)) H → va_D AA (wK A cc (g11.1, g11.2.1, r28, g11.2.2.2.1, g11.2.2.2.2.1, g11.2.2.2.2.2.1, g11.2.2.2.2.2.2.1, g11.2.2.2.2.2.2.2.1, g11.2.2.2.2.2.2.2.2.1, g11.2.2.2.2.2.2.2.2.2)) → va_S AA s.heap H locs → lv_has ls 19 [] → W p l e rx_K_sign s m ([Value.ref (A 0), Value.int a0, Value.long a1] : List Value).toArray below meth c H locs 0 0 (vx_MQ below (va_Ql (fun _ (_ : Unit) => False) (fun _ _ => True) AA) (vx_X (fun u => u = gE) (fun E u t => E = E0 ∧ bw D (wK A cc) (kK cc) AA u t) AA) ([Value.ref (A 0), Value.int a0, Value.long a1] : List Value).toArray s 1 6 AA) (F0 m 144 ls [.long j29, .long (v24 * 4294967296)]) := by
                intro H locs ls hP hD hS hl
                refine lv_ladd hx hb d_K_sign_144 ?_
                cases k16 _ (Option.some.inj hF).symm
              clear hF
              have hF := q31
              refine lv_if_le hx hb d_K_sign_130 (tgt := 142) (by decide) (fun h9 => ?_) (fun h9 => ?_)
              · have hF := (if_pos h9).symm.trans hF
                refine lv_lload hx hb d_K_sign_142 (lv_at hl 0 rfl) ?_
                obtain rfl := Option.some.inj hF
                exact k30 _ _ ls hP hD hS (lv_sub hl [] rfl)
              · have hF := (if_neg h9).symm.trans hF
                refine lv_ldc2 (v := 1073729077) hx hb hown (hw _ ww_146) d_K_sign_133 ?_
                refine lv_lload hx hb d_K_sign_136 (lv_at hl 0 rfl) ?_
                refine lv_lsub hx hb d_K_sign_138 ?_
                refine lv_goto hx hb d_K_sign_139 (tgt := 144) (by decide) ?_
                obtain rfl := Option.some.inj hF
                exact k30 _ _ ls hP hD hS (lv_sub hl [] rfl)
  exact k12 65 g7 1 _ _ ls hP hD hS (lv_sub hl [0, 1, 2, 3, 4] rfl) q33
def f_K_good (g0 : sK) (a0 : Int32) (a1 : Int64) (a2 : Int32) (a3 : Int32) : Option (Except (String × sK) (Int32 × sK)) := Option.bind (f_K_needSlot a0) (fun x1 => match x1 with | .error E9 => some (.error (E9, g0)) | .ok _ => (Option.bind (f_K_pointOf g0 a0) (fun x4 => match x4 with | .error E9 => some (.error E9) | .ok (r6, g7) => (Option.bind (f_S_isUnit (Int32.toInt64 a2)) (fun r8 => if r8 = 0 then (some (.ok (0, g7))) else (Option.bind (f_S_isUnit (Int32.toInt64 a3)) (fun r9 => if r9 = 0 then (some (.ok (0, g7))) else (if (lg_cmp (Int32.toInt64 a3) 536864538) ≤ 0 then (Option.bind (f_K_digest a1) (fun r10 => Option.bind (f_S_quotient r10 (Int32.toInt64 a3)) (fun r11 => Option.bind (f_S_quotient (Int32.toInt64 a2) (Int32.toInt64 a3)) (fun r12 => Option.bind (f_C_sumOfMultiples r11 4411025356 r12 r6) (fun r13 => Option.bind (if (lg_cmp r13 0) = 0 then (some (0) : Option (Int32)) else (Option.bind (f_C_xOf r13) (fun r19 => if (lg_cmp (r19 - r19 / 1073729077 * 1073729077) (Int32.toInt64 a2)) = 0 then (some (1)) else (some (0))))) (fun j14 => if j14 = 0 ∨ j14 = 1 then some (.ok (j14, g7)) else none)))))) else (some (.ok (0, g7)))))))))))
abbrev rm_K_good : Room := { frames := 5, cells := 0, slots := 0, locals := 147 }
abbrev rx_K_good : Room := { frames := 7, cells := 1, slots := 6, locals := 147 }
set_option maxHeartbeats 4000000 in
set_option maxRecDepth 100000 in
theorem k_K_good_ok (l : Launch) (D : va_G) (A : Nat → Nat) (cc : Nat → ClassId) (g0 : sK) (a0 : Int32) (a1 : Int64) (a2 : Int32) (a3 : Int32) (sz : Nat) (res : (Int32 × sK)) (hF : f_K_good g0 a0 a1 a2 a3 = some (.ok res)) : Met l y_K_good (Cond.code y_K_good b_K_good 14 (some .boolean) :: wa) rm_K_good (pw D (wK A cc g0) (kK cc) [.ref (A 0), .int a0, .long a1, .int a2, .int a3] sz) (va_Qi (fun r u => (r, u) = res) (bw D (wK A cc) (kK cc) (va_A (wK A cc g0) sz)) (va_A (wK A cc g0) sz)) 0 0 (va_A (wK A cc g0) sz) := by
  refine Met.ofW (cc := b_K_good) (maxL := 14) (ret := (some .boolean)) (by decide) rfl ?_
  intro p e s m args below meth c s₁ B hml hv
  obtain ⟨rfl, hsz, hP, hK, hD0, hN⟩ := hv
  subst hsz
  have hD := hD0.self (sz := s.heap.size)
  generalize hAe : va_A (wK A cc g0) s.heap.size = AA at hD ⊢
  have hx := B.exec
  have hb := B.bytes
  have hr := B.returns
  have hts := atoms_spec (ws := Cond.code y_K_good b_K_good 14 (some .boolean) :: wa) B.pre
  have hw : ∀ w ∈ wa, w.before _ s = true := fun w h => hts w (List.mem_cons_of_mem _ h)
  have hown : s.vm.findClass R_K = some m.cls := findClass_of_methodNamed B.named
  have hlocks := B.notSynchronized
  have hA : ∀ q : Nat, s.heap.size ≤ q → AA q := fun q h => by rw [← hAe]; exact Or.inr h
  have hS : va_S AA s.heap s.heap [] := va_S.rf
  have hl := lv_entry ([.ref (A 0), .int a0, .long a1, .int a2, .int a3]) (n := 14) (Nat.le_of_ble_eq_true rfl)
  rw [lg_entry_eq]
  generalize (lg_sl ([.ref (A 0), .int a0, .long a1, .int a2, .int a3]) ++ List.replicate (14 - (lg_sl ([.ref (A 0), .int a0, .long a1, .int a2, .int a3])).length) Slot.unset).toArray = ls at hl ⊢
  have hl : lv_has ls 14 [(0, .ref (A 0)), (1, .int a0), (2, .long a1), (4, .int a2), (5, .int a3)] := hl
  unfold f_K_good at hF
  refine lv_iload_n hx hb d_K_good_0 rfl (lv_at hl 1 rfl) ?_
  obtain ⟨x1, e_x1, hF⟩ := Option.bind_eq_some_iff.mp hF
  rcases x1 with E2 | n3
  · cases hF
  refine va_csv (va_runS (As := [.int a0]) (rest := []) ⟨hx, hb, hml, hown, hts⟩ (k_K_needSlot_ok l a0 n3 e_x1) (va_cwS 1 hts (ga_S ww_225 ww_226 ww_1 ww_227) rfl rfl rfl (by decide +kernel) ⟨by decide, by decide⟩) (pcs_pre hN) rfl rfl hl.1 rfl (lv_room (Nat.le_of_ble_eq_true rfl)) d_K_good_1 ⟨Nat.zero_le _, Nat.zero_le _⟩).run (fun _ => ?_)
  refine lv_aload_n hx hb d_K_good_4 rfl (lv_at hl 0 rfl) ?_
  refine lv_iload_n hx hb d_K_good_5 rfl (lv_at hl 1 rfl) ?_
  obtain ⟨x4, e_x4, hF⟩ := Option.bind_eq_some_iff.mp hF
  rcases x4 with ⟨E5, hE5⟩ | ⟨r6, g7⟩
  · cases hF
  have hFc := va_free (wc := wK A cc g0) hD hS hA [0, 1, 2, 3, 4, 5, 6, 7, 8, 9] rfl
  refine va_calll (va_runV (As := [.int a0]) (rest := []) ⟨hx, hb, hml, hown, hts⟩ (k_K_pointOf_ok l D A cc g0 a0 _ (r6, g7) e_x4) (cwV 1 hts (ga_V ww_346 ww_348 wp_5 ww_1 ww_349) rfl rfl rfl (by decide +kernel) ⟨by decide, by decide⟩) (pw_pre (q0 := 0) (ci := 2) hP hK hD hN rfl rfl) rfl rfl hl.1 rfl (lv_room (Nat.le_of_ble_eq_true rfl)) d_K_good_6 ⟨Nat.zero_le _, Nat.zero_le _⟩) hS (fun q _ h => hFc q h) hFc (fun r9 u9 t H locs ht hvm hp hB hz1 hk1 hS => ?_)
  obtain ⟨rfl, rfl⟩ := Prod.mk.inj hp.symm
  obtain ⟨hP, hD⟩ := bw_back hB ht hFc
  refine lv_lstore hx hb d_K_good_9 hl (by decide) (lv' := [(6, .long r6), (0, .ref (A 0)), (1, .int a0), (2, .long a1), (4, .int a2), (5, .int a3)]) rfl (fun ls hl => ?_)
  refine lv_iload hx hb d_K_good_11 (lv_at hl 4 rfl) ?_
  refine lv_i2l (v := Int32.toInt64 a2) hx hb d_K_good_13 rfl ?_
  obtain ⟨r8, e_r8, hF⟩ := Option.bind_eq_some_iff.mp hF
  refine vp_callSi (va_runS (As := [.long (Int32.toInt64 a2)]) (rest := []) ⟨hx, hb, hml, hown, hts⟩ (k_S_isUnit l (Int32.toInt64 a2) r8 e_r8) (va_cwS 1 hts (ga_S ww_293 ww_294 ww_9 ww_295) rfl rfl rfl (by decide +kernel) ⟨by decide, by decide⟩) (pcs_pre hN) rfl rfl hl.1 rfl (lv_room (Nat.le_of_ble_eq_true rfl)) d_K_good_14 ⟨Nat.zero_le _, Nat.zero_le _⟩).run (fun z9 hz9 => ?_)
  obtain rfl : r8 = z9 := hz9.symm
  refine lv_if_eq hx hb d_K_good_17 (tgt := 39) (by decide) (fun h9 => ?_) (fun h9 => ?_)
  · have hF := (if_pos h9).symm.trans hF
    refine lv_iconst (v := 0) hx hb d_K_good_39 (by decide) ?_
    cases hF
    exact W.zret hx hb hr (by decide) (fun t ht hW => ⟨⟨_, _, rfl, rfl, bw_end hP hK hD ht hW⟩, hS.F ht⟩) hS.2.2 d_K_good_40
  · have hF := (if_neg h9).symm.trans hF
    refine lv_iload hx hb d_K_good_20 (lv_at hl 5 rfl) ?_
    refine lv_i2l (v := Int32.toInt64 a3) hx hb d_K_good_22 rfl ?_
    obtain ⟨r9, e_r9, hF⟩ := Option.bind_eq_some_iff.mp hF
    refine vp_callSi (va_runS (As := [.long (Int32.toInt64 a3)]) (rest := []) ⟨hx, hb, hml, hown, hts⟩ (k_S_isUnit l (Int32.toInt64 a3) r9 e_r9) (va_cwS 1 hts (ga_S ww_293 ww_294 ww_9 ww_295) rfl rfl rfl (by decide +kernel) ⟨by decide, by decide⟩) (pcs_pre hN) rfl rfl hl.1 rfl (lv_room (Nat.le_of_ble_eq_true rfl)) d_K_good_23 ⟨Nat.zero_le _, Nat.zero_le _⟩).run (fun z9 hz9 => ?_)
    obtain rfl : r9 = z9 := hz9.symm
    refine lv_if_eq hx hb d_K_good_26 (tgt := 39) (by decide) (fun h9 => ?_) (fun h9 => ?_)
    · have hF := (if_pos h9).symm.trans hF
      refine lv_iconst (v := 0) hx hb d_K_good_39 (by decide) ?_
      cases hF
      exact W.zret hx hb hr (by decide) (fun t ht hW => ⟨⟨_, _, rfl, rfl, bw_end hP hK hD ht hW⟩, hS.F ht⟩) hS.2.2 d_K_good_40
    · have hF := (if_neg h9).symm.trans hF
      refine lv_iload hx hb d_K_good_29 (lv_at hl 5 rfl) ?_
      refine lv_i2l (v := Int32.toInt64 a3) hx hb d_K_good_31 rfl ?_
      refine lv_ldc2 (v := 536864538) hx hb hown (hw _ ww_426) d_K_good_32 ?_
      refine W.lcmp hx hb d_K_good_35 ?_
      refine lv_if_le hx hb d_K_good_36 (tgt := 41) (by decide) (fun h9 => ?_) (fun h9 => ?_)
      · have hF := (if_pos h9).symm.trans hF
        refine lv_lload_n hx hb d_K_good_41 rfl (lv_at hl 3 rfl) ?_
        obtain ⟨r10, e_r10, hF⟩ := Option.bind_eq_some_iff.mp hF
        refine vp_callSl (va_runS (As := [.long a1]) (rest := []) ⟨hx, hb, hml, hown, hts⟩ (k_K_digest l a1 r10 e_r10) (va_cwS 1 hts (ga_S ww_413 ww_414 ww_1 ww_415) rfl rfl rfl (by decide +kernel) ⟨by decide, by decide⟩) (pcs_pre hN) rfl rfl hl.1 rfl (lv_room (Nat.le_of_ble_eq_true rfl)) d_K_good_42 ⟨Nat.zero_le _, Nat.zero_le _⟩).run (fun z9 hz9 => ?_)
        obtain rfl : r10 = z9 := hz9.symm
        refine lv_iload hx hb d_K_good_45 (lv_at hl 5 rfl) ?_
        refine lv_i2l (v := Int32.toInt64 a3) hx hb d_K_good_47 rfl ?_
        obtain ⟨r11, e_r11, hF⟩ := Option.bind_eq_some_iff.mp hF
        refine vp_callSl (va_runS (As := [.long r10, .long (Int32.toInt64 a3)]) (rest := []) ⟨hx, hb, hml, hown, hts⟩ (k_S_quotient l r10 (Int32.toInt64 a3) r11 e_r11) (va_cwS 2 hts (ga_S ww_418 ww_419 ww_9 ww_420) rfl rfl rfl (by decide +kernel) ⟨by decide, by decide⟩) (pcs_pre hN) rfl rfl hl.1 rfl (lv_room (Nat.le_of_ble_eq_true rfl)) d_K_good_48 ⟨Nat.zero_le _, Nat.zero_le _⟩).run (fun z9 hz9 => ?_)
        obtain rfl : r11 = z9 := hz9.symm
        refine lv_lstore hx hb d_K_good_51 hl (by decide) (lv' := [(8, .long r11), (6, .long r6), (0, .ref (A 0)), (1, .int a0), (2, .long a1), (4, .int a2), (5, .int a3)]) rfl (fun ls hl => ?_)
        refine lv_iload hx hb d_K_good_53 (lv_at hl 5 rfl) ?_
        refine lv_i2l (v := Int32.toInt64 a2) hx hb d_K_good_55 rfl ?_
        refine lv_iload hx hb d_K_good_56 (lv_at hl 6 rfl) ?_
        refine lv_i2l (v := Int32.toInt64 a3) hx hb d_K_good_58 rfl ?_
        obtain ⟨r12, e_r12, hF⟩ := Option.bind_eq_some_iff.mp hF
        refine vp_callSl (va_runS (As := [.long (Int32.toInt64 a2), .long (Int32.toInt64 a3)]) (rest := []) ⟨hx, hb, hml, hown, hts⟩ (k_S_quotient l (Int32.toInt64 a2) (Int32.toInt64 a3) r12 e_r12) (va_cwS 2 hts (ga_S ww_418 ww_419 ww_9 ww_420) rfl rfl rfl (by decide +kernel) ⟨by decide, by decide⟩) (pcs_pre hN) rfl rfl hl.1 rfl (lv_room (Nat.le_of_ble_eq_true rfl)) d_K_good_59 ⟨Nat.zero_le _, Nat.zero_le _⟩).run (fun z9 hz9 => ?_)
        obtain rfl : r12 = z9 := hz9.symm
        refine lv_lstore hx hb d_K_good_62 hl (by decide) (lv' := [(10, .long r12), (8, .long r11), (6, .long r6), (0, .ref (A 0)), (1, .int a0), (2, .long a1), (4, .int a2), (5, .int a3)]) rfl (fun ls hl => ?_)
        refine lv_lload hx hb d_K_good_64 (lv_at hl 1 rfl) ?_
        refine lv_ldc2 (v := 4411025356) hx hb hown (hw _ ww_314) d_K_good_66 ?_
        refine lv_lload hx hb d_K_good_69 (lv_at hl 0 rfl) ?_
        refine lv_lload hx hb d_K_good_71 (lv_at hl 2 rfl) ?_
        obtain ⟨r13, e_r13, hF⟩ := Option.bind_eq_some_iff.mp hF
        refine vp_callSl (va_runS (As := [.long r11, .long 4411025356, .long r12, .long r6]) (rest := []) ⟨hx, hb, hml, hown, hts⟩ (k_C_sumOfMultiples l r11 4411025356 r12 r6 r13 e_r13) (va_cwS 4 hts (ga_S ww_384 ww_149 ww_11 ww_150) rfl rfl rfl (by decide +kernel) ⟨by decide, by decide⟩) (pcs_pre hN) rfl rfl hl.1 rfl (lv_room (Nat.le_of_ble_eq_true rfl)) d_K_good_73 ⟨Nat.zero_le _, Nat.zero_le _⟩).run (fun z9 hz9 => ?_)
        obtain rfl : r13 = z9 := hz9.symm
        refine lv_lstore hx hb d_K_good_76 hl (by decide) (lv' := [(12, .long r13), (10, .long r12), (8, .long r11), (6, .long r6), (0, .ref (A 0)), (1, .int a0), (2, .long a1), (4, .int a2), (5, .int a3)]) rfl (fun ls hl => ?_)
        refine lv_lload hx hb d_K_good_78 (lv_at hl 0 rfl) ?_
        refine lv_lconst (v := 0) hx hb d_K_good_80 (by decide) ?_
        refine W.lcmp hx hb d_K_good_81 ?_
        obtain ⟨j14, q16, hF⟩ := Option.bind_eq_some_iff.mp hF
        have k15 : ∀ (H : Heap) (locs : List Loc) (ls : Array Slot), va_P D vwC (wK A cc g7) H → va_D AA (wK A cc g7) → va_S AA s.heap H locs → lv_has ls 14 [] → W p l e rm_K_good s m ([Value.ref (A 0), Value.int a0, Value.long a1, Value.int a2, Value.int a3] : List Value).toArray below meth c H locs 0 0 (MQ below (va_Qi (fun r u => (r, u) = res) (bw D (wK A cc) (kK cc) AA) AA) ([Value.ref (A 0), Value.int a0, Value.long a1, Value.int a2, Value.int a3] : List Value).toArray s 0 0 AA) (F0 m 106 ls [.int j14]) := by
          intro H locs ls hP hD hS hl
          by_cases h18 : ¬ (j14 = 0 ∨ j14 = 1)
          · have h0 := (if_neg h18).symm.trans hF; cases h0
          have h18 := Classical.not_not.mp h18
          have hF := (if_pos h18).symm.trans hF
          cases hF
          exact W.zret hx hb hr (nz_b h18) (fun t ht hW => ⟨⟨_, _, rfl, rfl, bw_end hP hK hD ht hW⟩, hS.F ht⟩) hS.2.2 d_K_good_106
        clear hF
        have hF := q16
        refine lv_if_eq hx hb d_K_good_82 (tgt := 105) (by decide) (fun h9 => ?_) (fun h9 => ?_)
        · have hF := (if_pos h9).symm.trans hF
          refine lv_iconst (v := 0) hx hb d_K_good_105 (by decide) ?_
          obtain rfl := Option.some.inj hF
          exact k15 _ _ ls hP hD hS (lv_sub hl [] rfl)
        · have hF := (if_neg h9).symm.trans hF
          refine lv_lload hx hb d_K_good_85 (lv_at hl 0 rfl) ?_
          obtain ⟨r19, e_r19, hF⟩ := Option.bind_eq_some_iff.mp hF
          refine vp_callSl (va_runS (As := [.long r13]) (rest := []) ⟨hx, hb, hml, hown, hts⟩ (k_C_xOf l r13 r19 e_r19) (va_cwS 1 hts (ga_S ww_417 ww_104 ww_11 ww_105) rfl rfl rfl (by decide +kernel) ⟨by decide, by decide⟩) (pcs_pre hN) rfl rfl hl.1 rfl (lv_room (Nat.le_of_ble_eq_true rfl)) d_K_good_87 ⟨Nat.zero_le _, Nat.zero_le _⟩).run (fun z9 hz9 => ?_)
          obtain rfl : r19 = z9 := hz9.symm
          refine lv_ldc2 (v := 1073729077) hx hb hown (hw _ ww_146) d_K_good_90 ?_
          refine lv_lrem hx hb d_K_good_93 (by decide) ?_
          refine lv_iload hx hb d_K_good_94 (lv_at hl 7 rfl) ?_
          refine lv_i2l (v := Int32.toInt64 a2) hx hb d_K_good_96 rfl ?_
          refine W.lcmp hx hb d_K_good_97 ?_
          refine lv_if_ne hx hb d_K_good_98 (tgt := 105) (by decide) (fun h9 => ?_) (fun h9 => ?_)
          · have hF := (if_neg h9).symm.trans hF
            refine lv_iconst (v := 0) hx hb d_K_good_105 (by decide) ?_
            obtain rfl := Option.some.inj hF
            exact k15 _ _ ls hP hD hS (lv_sub hl [] rfl)
          · have hF := (if_pos h9).symm.trans hF
            refine lv_iconst (v := 1) hx hb d_K_good_101 (by decide) ?_
            refine lv_goto hx hb d_K_good_102 (tgt := 106) (by decide) ?_
            obtain rfl := Option.some.inj hF
            exact k15 _ _ ls hP hD hS (lv_sub hl [] rfl)
      · have hF := (if_neg h9).symm.trans hF
        refine lv_iconst (v := 0) hx hb d_K_good_39 (by decide) ?_
        cases hF
        exact W.zret hx hb hr (by decide) (fun t ht hW => ⟨⟨_, _, rfl, rfl, bw_end hP hK hD ht hW⟩, hS.F ht⟩) hS.2.2 d_K_good_40
set_option maxHeartbeats 4000000 in
set_option maxRecDepth 100000 in
theorem k_K_good_er (l : Launch) (hl0 : l.stackTraces = false) (D : va_G) (A : Nat → Nat) (cc : Nat → ClassId) (g0 : sK) (a0 : Int32) (a1 : Int64) (a2 : Int32) (a3 : Int32) (sz : Nat) (E0 : String) (gE : sK) (hF : f_K_good g0 a0 a1 a2 a3 = some (.error (E0, gE))) : vx_Met l y_K_good (Cond.code y_K_good b_K_good 14 (some .boolean) :: wa) rx_K_good (pwx D (wK A cc g0) (kK cc) [.ref (A 0), .int a0, .long a1, .int a2, .int a3] sz) (va_Qi (fun _ (_ : Unit) => False) (fun _ _ => True) (va_A (wK A cc g0) sz)) (vx_X (fun u => u = gE) (fun E u t => E = E0 ∧ bw D (wK A cc) (kK cc) (va_A (wK A cc g0) sz) u t) (va_A (wK A cc g0) sz)) 1 6 (va_A (wK A cc g0) sz) := by
  refine vx_ofW (cc := b_K_good) (maxL := 14) (ret := (some .boolean)) (by decide) rfl ?_
  intro p e s m args below meth c s₁ B hml hout hv
  obtain ⟨⟨rfl, hsz, hP, hK, hD0, hN⟩, hX, hZ⟩ := hv
  subst hsz
  have hD := hD0.self (sz := s.heap.size)
  generalize hAe : va_A (wK A cc g0) s.heap.size = AA at hD hZ ⊢
  have hx := B.exec
  have hb := B.bytes
  have hr := B.returns
  have hts := atoms_spec (ws := Cond.code y_K_good b_K_good 14 (some .boolean) :: wa) B.pre
  have hw : ∀ w ∈ wa, w.before _ s = true := fun w h => hts w (List.mem_cons_of_mem _ h)
  have hown : s.vm.findClass R_K = some m.cls := findClass_of_methodNamed B.named
  have hlocks := B.notSynchronized
  have hA : ∀ q : Nat, s.heap.size ≤ q → AA q := fun q h => by rw [← hAe]; exact Or.inr h
  have hS : va_S AA s.heap s.heap [] := va_S.rf
  have hl := lv_entry ([.ref (A 0), .int a0, .long a1, .int a2, .int a3]) (n := 14) (Nat.le_of_ble_eq_true rfl)
  rw [lg_entry_eq]
  generalize (lg_sl ([.ref (A 0), .int a0, .long a1, .int a2, .int a3]) ++ List.replicate (14 - (lg_sl ([.ref (A 0), .int a0, .long a1, .int a2, .int a3])).length) Slot.unset).toArray = ls at hl ⊢
  have hl : lv_has ls 14 [(0, .ref (A 0)), (1, .int a0), (2, .long a1), (4, .int a2), (5, .int a3)] := hl
  unfold f_K_good at hF
  refine lv_iload_n hx hb d_K_good_0 rfl (lv_at hl 1 rfl) ?_
  obtain ⟨x1, e_x1, hF⟩ := Option.bind_eq_some_iff.mp hF
  rcases x1 with E2 | n3
  · cases hF
    have hFc : ∀ q, fr (Array.size _) q → AA q := fun q h => hA q (Nat.le_trans hS.1 h)
    refine vx_callv (vx_runS (As := [.int a0]) (rest := []) ⟨hx, hb, hml, hown, hts⟩ (k_K_needSlot_er l hl0 a0 _ _ e_x1) (va_cwS 1 hts (ga_S ww_225 ww_226 ww_1 ww_227) rfl rfl rfl (by decide +kernel) ⟨by decide, by decide⟩) (pcx_pre hN hX hZ hS hA) rfl rfl hl.1 rfl (lv_room (Nat.le_of_ble_eq_true rfl)) d_K_good_1 ⟨Nat.le_of_ble_eq_true rfl, Nat.le_of_ble_eq_true rfl⟩) hS (fun q _ h => hFc q h) hFc (fun q _ h => hFc q h) (fun E ce q9 u t H1 locs ht hvm hpx hBX hz hk hS hce hcv hcl => ?_) (fun u t H1 locs _ _ hp _ _ _ _ => hp.elim)
    obtain rfl := hBX
    have hk : ∀ q : Nat, q < _ → H1[q]? = _ := fun q h => hk q h (fun z => Nat.lt_irrefl _ (Nat.lt_of_lt_of_le h z))
    have hP := xt_P hP hk
    exact vx_out (fun x h => (hout x h).elim) hlocks hce hcv hcl (fun t9 ht9 ha9 => ⟨_, rfl, ⟨rfl, by rw [ht9]; exact hP, va_K.moved ha9 hK, hD⟩, hS.F ht9⟩) hS.2.2 (Nat.le_of_ble_eq_true rfl) (Nat.le_of_ble_eq_true rfl)
  refine va_csv (va_runS (As := [.int a0]) (rest := []) ⟨hx, hb, hml, hown, hts⟩ (k_K_needSlot_ok l a0 n3 e_x1) (va_cwS 1 hts (ga_S ww_225 ww_226 ww_1 ww_227) rfl rfl rfl (by decide +kernel) ⟨by decide, by decide⟩) (pcs_pre hN) rfl rfl hl.1 rfl (lv_room (Nat.le_of_ble_eq_true rfl)) d_K_good_1 ⟨Nat.zero_le _, Nat.zero_le _⟩).run (fun _ => ?_)
  refine lv_aload_n hx hb d_K_good_4 rfl (lv_at hl 0 rfl) ?_
  refine lv_iload_n hx hb d_K_good_5 rfl (lv_at hl 1 rfl) ?_
  obtain ⟨x4, e_x4, hF⟩ := Option.bind_eq_some_iff.mp hF
  rcases x4 with ⟨E5, hE5⟩ | ⟨r6, g7⟩
  · have hFc := va_free (wc := wK A cc g0) hD hS hA [0, 1, 2, 3, 4, 5, 6, 7, 8, 9] rfl
    cases hF
    refine vx_calll (vx_runV (As := [.int a0]) (rest := []) ⟨hx, hb, hml, hown, hts⟩ (k_K_pointOf_er l hl0 D A cc g0 a0 _ _ _ e_x4) (cwV 1 hts (ga_V ww_346 ww_348 wp_5 ww_1 ww_349) rfl rfl rfl (by decide +kernel) ⟨by decide, by decide⟩) (pwx_pre (q0 := 0) (ci := 2) hP hK hD hN hX hZ hS hFc rfl rfl) rfl rfl hl.1 rfl (lv_room (Nat.le_of_ble_eq_true rfl)) d_K_good_6 ⟨Nat.le_of_ble_eq_true rfl, Nat.le_of_ble_eq_true rfl⟩) hS (fun q _ h => hFc q h) hFc (fun q _ h => hFc q h) (fun E ce q9 u t H1 locs ht hvm hpx hBX hz hk hS hce hcv hcl => ?_) (fun r9 u t H1 locs _ _ hp _ _ _ _ => hp.elim)
    obtain rfl := hpx
    obtain ⟨rfl, hB⟩ := hBX
    obtain ⟨hP, hD⟩ := bw_back hB ht hFc
    exact vx_out (fun x h => (hout x h).elim) hlocks hce hcv hcl (fun t9 ht9 ha9 => ⟨_, rfl, ⟨rfl, by rw [ht9]; exact hP, va_K.moved ha9 hK, hD⟩, hS.F ht9⟩) hS.2.2 (Nat.le_of_ble_eq_true rfl) (Nat.le_of_ble_eq_true rfl)
  have hFc := va_free (wc := wK A cc g0) hD hS hA [0, 1, 2, 3, 4, 5, 6, 7, 8, 9] rfl
  refine va_calll (va_runV (As := [.int a0]) (rest := []) ⟨hx, hb, hml, hown, hts⟩ (k_K_pointOf_ok l D A cc g0 a0 _ (r6, g7) e_x4) (cwV 1 hts (ga_V ww_346 ww_348 wp_5 ww_1 ww_349) rfl rfl rfl (by decide +kernel) ⟨by decide, by decide⟩) (pw_pre (q0 := 0) (ci := 2) hP hK hD hN rfl rfl) rfl rfl hl.1 rfl (lv_room (Nat.le_of_ble_eq_true rfl)) d_K_good_6 ⟨Nat.zero_le _, Nat.zero_le _⟩) hS (fun q _ h => hFc q h) hFc (fun r9 u9 t H locs ht hvm hp hB hz1 hk1 hS => ?_)
  obtain ⟨rfl, rfl⟩ := Prod.mk.inj hp.symm
  obtain ⟨hP, hD⟩ := bw_back hB ht hFc
  refine lv_lstore hx hb d_K_good_9 hl (by decide) (lv' := [(6, .long r6), (0, .ref (A 0)), (1, .int a0), (2, .long a1), (4, .int a2), (5, .int a3)]) rfl (fun ls hl => ?_)
  refine lv_iload hx hb d_K_good_11 (lv_at hl 4 rfl) ?_
  refine lv_i2l (v := Int32.toInt64 a2) hx hb d_K_good_13 rfl ?_
  obtain ⟨r8, e_r8, hF⟩ := Option.bind_eq_some_iff.mp hF
  refine vp_callSi (va_runS (As := [.long (Int32.toInt64 a2)]) (rest := []) ⟨hx, hb, hml, hown, hts⟩ (k_S_isUnit l (Int32.toInt64 a2) r8 e_r8) (va_cwS 1 hts (ga_S ww_293 ww_294 ww_9 ww_295) rfl rfl rfl (by decide +kernel) ⟨by decide, by decide⟩) (pcs_pre hN) rfl rfl hl.1 rfl (lv_room (Nat.le_of_ble_eq_true rfl)) d_K_good_14 ⟨Nat.zero_le _, Nat.zero_le _⟩).run (fun z9 hz9 => ?_)
  obtain rfl : r8 = z9 := hz9.symm
  refine lv_if_eq hx hb d_K_good_17 (tgt := 39) (by decide) (fun h9 => ?_) (fun h9 => ?_)
  · have hF := (if_pos h9).symm.trans hF
    refine lv_iconst (v := 0) hx hb d_K_good_39 (by decide) ?_
    cases hF
  · have hF := (if_neg h9).symm.trans hF
    refine lv_iload hx hb d_K_good_20 (lv_at hl 5 rfl) ?_
    refine lv_i2l (v := Int32.toInt64 a3) hx hb d_K_good_22 rfl ?_
    obtain ⟨r9, e_r9, hF⟩ := Option.bind_eq_some_iff.mp hF
    refine vp_callSi (va_runS (As := [.long (Int32.toInt64 a3)]) (rest := []) ⟨hx, hb, hml, hown, hts⟩ (k_S_isUnit l (Int32.toInt64 a3) r9 e_r9) (va_cwS 1 hts (ga_S ww_293 ww_294 ww_9 ww_295) rfl rfl rfl (by decide +kernel) ⟨by decide, by decide⟩) (pcs_pre hN) rfl rfl hl.1 rfl (lv_room (Nat.le_of_ble_eq_true rfl)) d_K_good_23 ⟨Nat.zero_le _, Nat.zero_le _⟩).run (fun z9 hz9 => ?_)
    obtain rfl : r9 = z9 := hz9.symm
    refine lv_if_eq hx hb d_K_good_26 (tgt := 39) (by decide) (fun h9 => ?_) (fun h9 => ?_)
    · have hF := (if_pos h9).symm.trans hF
      refine lv_iconst (v := 0) hx hb d_K_good_39 (by decide) ?_
      cases hF
    · have hF := (if_neg h9).symm.trans hF
      refine lv_iload hx hb d_K_good_29 (lv_at hl 5 rfl) ?_
      refine lv_i2l (v := Int32.toInt64 a3) hx hb d_K_good_31 rfl ?_
      refine lv_ldc2 (v := 536864538) hx hb hown (hw _ ww_426) d_K_good_32 ?_
      refine W.lcmp hx hb d_K_good_35 ?_
      refine lv_if_le hx hb d_K_good_36 (tgt := 41) (by decide) (fun h9 => ?_) (fun h9 => ?_)
      · have hF := (if_pos h9).symm.trans hF
        refine lv_lload_n hx hb d_K_good_41 rfl (lv_at hl 3 rfl) ?_
        obtain ⟨r10, e_r10, hF⟩ := Option.bind_eq_some_iff.mp hF
        refine vp_callSl (va_runS (As := [.long a1]) (rest := []) ⟨hx, hb, hml, hown, hts⟩ (k_K_digest l a1 r10 e_r10) (va_cwS 1 hts (ga_S ww_413 ww_414 ww_1 ww_415) rfl rfl rfl (by decide +kernel) ⟨by decide, by decide⟩) (pcs_pre hN) rfl rfl hl.1 rfl (lv_room (Nat.le_of_ble_eq_true rfl)) d_K_good_42 ⟨Nat.zero_le _, Nat.zero_le _⟩).run (fun z9 hz9 => ?_)
        obtain rfl : r10 = z9 := hz9.symm
        refine lv_iload hx hb d_K_good_45 (lv_at hl 5 rfl) ?_
        refine lv_i2l (v := Int32.toInt64 a3) hx hb d_K_good_47 rfl ?_
        obtain ⟨r11, e_r11, hF⟩ := Option.bind_eq_some_iff.mp hF
        refine vp_callSl (va_runS (As := [.long r10, .long (Int32.toInt64 a3)]) (rest := []) ⟨hx, hb, hml, hown, hts⟩ (k_S_quotient l r10 (Int32.toInt64 a3) r11 e_r11) (va_cwS 2 hts (ga_S ww_418 ww_419 ww_9 ww_420) rfl rfl rfl (by decide +kernel) ⟨by decide, by decide⟩) (pcs_pre hN) rfl rfl hl.1 rfl (lv_room (Nat.le_of_ble_eq_true rfl)) d_K_good_48 ⟨Nat.zero_le _, Nat.zero_le _⟩).run (fun z9 hz9 => ?_)
        obtain rfl : r11 = z9 := hz9.symm
        refine lv_lstore hx hb d_K_good_51 hl (by decide) (lv' := [(8, .long r11), (6, .long r6), (0, .ref (A 0)), (1, .int a0), (2, .long a1), (4, .int a2), (5, .int a3)]) rfl (fun ls hl => ?_)
        refine lv_iload hx hb d_K_good_53 (lv_at hl 5 rfl) ?_
        refine lv_i2l (v := Int32.toInt64 a2) hx hb d_K_good_55 rfl ?_
        refine lv_iload hx hb d_K_good_56 (lv_at hl 6 rfl) ?_
        refine lv_i2l (v := Int32.toInt64 a3) hx hb d_K_good_58 rfl ?_
        obtain ⟨r12, e_r12, hF⟩ := Option.bind_eq_some_iff.mp hF
        refine vp_callSl (va_runS (As := [.long (Int32.toInt64 a2), .long (Int32.toInt64 a3)]) (rest := []) ⟨hx, hb, hml, hown, hts⟩ (k_S_quotient l (Int32.toInt64 a2) (Int32.toInt64 a3) r12 e_r12) (va_cwS 2 hts (ga_S ww_418 ww_419 ww_9 ww_420) rfl rfl rfl (by decide +kernel) ⟨by decide, by decide⟩) (pcs_pre hN) rfl rfl hl.1 rfl (lv_room (Nat.le_of_ble_eq_true rfl)) d_K_good_59 ⟨Nat.zero_le _, Nat.zero_le _⟩).run (fun z9 hz9 => ?_)
        obtain rfl : r12 = z9 := hz9.symm
        refine lv_lstore hx hb d_K_good_62 hl (by decide) (lv' := [(10, .long r12), (8, .long r11), (6, .long r6), (0, .ref (A 0)), (1, .int a0), (2, .long a1), (4, .int a2), (5, .int a3)]) rfl (fun ls hl => ?_)
        refine lv_lload hx hb d_K_good_64 (lv_at hl 1 rfl) ?_
        refine lv_ldc2 (v := 4411025356) hx hb hown (hw _ ww_314) d_K_good_66 ?_
        refine lv_lload hx hb d_K_good_69 (lv_at hl 0 rfl) ?_
        refine lv_lload hx hb d_K_good_71 (lv_at hl 2 rfl) ?_
        obtain ⟨r13, e_r13, hF⟩ := Option.bind_eq_some_iff.mp hF
        refine vp_callSl (va_runS (As := [.long r11, .long 4411025356, .long r12, .long r6]) (rest := []) ⟨hx, hb, hml, hown, hts⟩ (k_C_sumOfMultiples l r11 4411025356 r12 r6 r13 e_r13) (va_cwS 4 hts (ga_S ww_384 ww_149 ww_11 ww_150) rfl rfl rfl (by decide +kernel) ⟨by decide, by decide⟩) (pcs_pre hN) rfl rfl hl.1 rfl (lv_room (Nat.le_of_ble_eq_true rfl)) d_K_good_73 ⟨Nat.zero_le _, Nat.zero_le _⟩).run (fun z9 hz9 => ?_)
        obtain rfl : r13 = z9 := hz9.symm
        refine lv_lstore hx hb d_K_good_76 hl (by decide) (lv' := [(12, .long r13), (10, .long r12), (8, .long r11), (6, .long r6), (0, .ref (A 0)), (1, .int a0), (2, .long a1), (4, .int a2), (5, .int a3)]) rfl (fun ls hl => ?_)
        refine lv_lload hx hb d_K_good_78 (lv_at hl 0 rfl) ?_
        refine lv_lconst (v := 0) hx hb d_K_good_80 (by decide) ?_
        refine W.lcmp hx hb d_K_good_81 ?_
        obtain ⟨j14, q16, hF⟩ := Option.bind_eq_some_iff.mp hF
        have k15 : ∀ (H : Heap) (locs : List Loc) (ls : Array Slot), va_P D vwC (wK A cc g7) H → va_D AA (wK A cc g7) → va_S AA s.heap H locs → lv_has ls 14 [] → W p l e rx_K_good s m ([Value.ref (A 0), Value.int a0, Value.long a1, Value.int a2, Value.int a3] : List Value).toArray below meth c H locs 0 0 (vx_MQ below (va_Qi (fun _ (_ : Unit) => False) (fun _ _ => True) AA) (vx_X (fun u => u = gE) (fun E u t => E = E0 ∧ bw D (wK A cc) (kK cc) AA u t) AA) ([Value.ref (A 0), Value.int a0, Value.long a1, Value.int a2, Value.int a3] : List Value).toArray s 1 6 AA) (F0 m 106 ls [.int j14]) := by
          intro H locs ls hP hD hS hl
          by_cases h18 : ¬ (j14 = 0 ∨ j14 = 1)
          · have h0 := (if_neg h18).symm.trans hF; cases h0
          have h18 := Classical.not_not.mp h18
          have hF := (if_pos h18).symm.trans hF
          cases hF
        clear hF
        have hF := q16
        refine lv_if_eq hx hb d_K_good_82 (tgt := 105) (by decide) (fun h9 => ?_) (fun h9 => ?_)
        · have hF := (if_pos h9).symm.trans hF
          refine lv_iconst (v := 0) hx hb d_K_good_105 (by decide) ?_
          obtain rfl := Option.some.inj hF
          exact k15 _ _ ls hP hD hS (lv_sub hl [] rfl)
        · have hF := (if_neg h9).symm.trans hF
          refine lv_lload hx hb d_K_good_85 (lv_at hl 0 rfl) ?_
          obtain ⟨r19, e_r19, hF⟩ := Option.bind_eq_some_iff.mp hF
          refine vp_callSl (va_runS (As := [.long r13]) (rest := []) ⟨hx, hb, hml, hown, hts⟩ (k_C_xOf l r13 r19 e_r19) (va_cwS 1 hts (ga_S ww_417 ww_104 ww_11 ww_105) rfl rfl rfl (by decide +kernel) ⟨by decide, by decide⟩) (pcs_pre hN) rfl rfl hl.1 rfl (lv_room (Nat.le_of_ble_eq_true rfl)) d_K_good_87 ⟨Nat.zero_le _, Nat.zero_le _⟩).run (fun z9 hz9 => ?_)
          obtain rfl : r19 = z9 := hz9.symm
          refine lv_ldc2 (v := 1073729077) hx hb hown (hw _ ww_146) d_K_good_90 ?_
          refine lv_lrem hx hb d_K_good_93 (by decide) ?_
          refine lv_iload hx hb d_K_good_94 (lv_at hl 7 rfl) ?_
          refine lv_i2l (v := Int32.toInt64 a2) hx hb d_K_good_96 rfl ?_
          refine W.lcmp hx hb d_K_good_97 ?_
          refine lv_if_ne hx hb d_K_good_98 (tgt := 105) (by decide) (fun h9 => ?_) (fun h9 => ?_)
          · have hF := (if_neg h9).symm.trans hF
            refine lv_iconst (v := 0) hx hb d_K_good_105 (by decide) ?_
            obtain rfl := Option.some.inj hF
            exact k15 _ _ ls hP hD hS (lv_sub hl [] rfl)
          · have hF := (if_pos h9).symm.trans hF
            refine lv_iconst (v := 1) hx hb d_K_good_101 (by decide) ?_
            refine lv_goto hx hb d_K_good_102 (tgt := 106) (by decide) ?_
            obtain rfl := Option.some.inj hF
            exact k15 _ _ ls hP hD hS (lv_sub hl [] rfl)
      · have hF := (if_neg h9).symm.trans hF
        refine lv_iconst (v := 0) hx hb d_K_good_39 (by decide) ?_
        cases hF
def f_K_recover (g0 : sK) (a0 : Int32) (a1 : Int64) (a2 : Int32) (a3 : Int32) (a4 : Int32) : Option (Except (String × sK) (Int64 × sK)) := Option.bind (f_K_needSlot a0) (fun x1 => match x1 with | .error E9 => some (.error (E9, g0)) | .ok _ => (Option.bind (f_S_isUnit (Int32.toInt64 a2)) (fun r4 => Option.bind (if r4 = 0 then (some (0) : Option (Int32)) else (Option.bind (f_S_isUnit (Int32.toInt64 a3)) (fun r43 => if r43 = 0 then (some (0)) else (if a4 < 0 then (some (0)) else (if 3 < a4 then (some (0)) else (some (1))))))) (fun j5 => Option.bind (f_K_needArgument j5) (fun x9 => match x9 with | .error E9 => some (.error (E9, g0)) | .ok _ => (Option.bind (if (a4 &&& 2) = 0 then (some (Int32.toInt64 a2) : Option (Int64)) else (some ((Int32.toInt64 a2) + 1073729077))) (fun j12 => Option.bind (if (a4 &&& 1) = 1 then (some (1) : Option (Int32)) else (some (0))) (fun j16 => Option.bind (f_C_pointAt j12 j16) (fun r20 => Option.bind (if (lg_cmp r20 0) = 0 then (some (0) : Option (Int32)) else (some (1))) (fun j21 => Option.bind (f_K_needArgument j21) (fun x25 => match x25 with | .error E9 => some (.error (E9, g0)) | .ok _ => (Option.bind (f_S_quotient (Int32.toInt64 a3) (Int32.toInt64 a2)) (fun r28 => Option.bind (f_K_digest a1) (fun r29 => Option.bind (f_S_quotient r29 (Int32.toInt64 a2)) (fun r30 => Option.bind (some (1073729077 - r30)) (fun v31 => Option.bind (f_C_sumOfMultiples r28 r20 v31 4411025356) (fun r32 => Option.bind (if (lg_cmp r32 0) = 0 then (some (0) : Option (Int32)) else (some (1))) (fun j33 => Option.bind (f_K_needArgument j33) (fun x37 => match x37 with | .error E9 => some (.error (E9, g0)) | .ok _ => (Option.bind (f_K_fill g0 a0 r32 0) (fun t42 => match t42 with | (r41, g40) => (some (.ok (r41, g40))))))))))))))))))))))))
abbrev rm_K_recover : Room := { frames := 5, cells := 0, slots := 0, locals := 147 }
abbrev rx_K_recover : Room := { frames := 7, cells := 1, slots := 6, locals := 147 }
set_option maxHeartbeats 4000000 in
set_option maxRecDepth 100000 in
theorem k_K_recover_ok (l : Launch) (D : va_G) (A : Nat → Nat) (cc : Nat → ClassId) (g0 : sK) (a0 : Int32) (a1 : Int64) (a2 : Int32) (a3 : Int32) (a4 : Int32) (sz : Nat) (res : (Int64 × sK)) (hF : f_K_recover g0 a0 a1 a2 a3 a4 = some (.ok res)) : Met l y_K_recover (Cond.code y_K_recover b_K_recover 17 (some .long) :: wa) rm_K_recover (pw D (wK A cc g0) (kK cc) [.ref (A 0), .int a0, .long a1, .int a2, .int a3, .int a4] sz) (va_Ql (fun r u => (r, u) = res) (bw D (wK A cc) (kK cc) (va_A (wK A cc g0) sz)) (va_A (wK A cc g0) sz)) 0 0 (va_A (wK A cc g0) sz) := by
  refine Met.ofW (cc := b_K_recover) (maxL := 17) (ret := (some .long)) (by decide) rfl ?_
  intro p e s m args below meth c s₁ B hml hv
  obtain ⟨rfl, hsz, hP, hK, hD0, hN⟩ := hv
  subst hsz
  have hD := hD0.self (sz := s.heap.size)
  generalize hAe : va_A (wK A cc g0) s.heap.size = AA at hD ⊢
  have hx := B.exec
  have hb := B.bytes
  have hr := B.returns
  have hts := atoms_spec (ws := Cond.code y_K_recover b_K_recover 17 (some .long) :: wa) B.pre
  have hw : ∀ w ∈ wa, w.before _ s = true := fun w h => hts w (List.mem_cons_of_mem _ h)
  have hown : s.vm.findClass R_K = some m.cls := findClass_of_methodNamed B.named
  have hlocks := B.notSynchronized
  have hA : ∀ q : Nat, s.heap.size ≤ q → AA q := fun q h => by rw [← hAe]; exact Or.inr h
  have hS : va_S AA s.heap s.heap [] := va_S.rf
  have hl := lv_entry ([.ref (A 0), .int a0, .long a1, .int a2, .int a3, .int a4]) (n := 17) (Nat.le_of_ble_eq_true rfl)
  rw [lg_entry_eq]
  generalize (lg_sl ([.ref (A 0), .int a0, .long a1, .int a2, .int a3, .int a4]) ++ List.replicate (17 - (lg_sl ([.ref (A 0), .int a0, .long a1, .int a2, .int a3, .int a4])).length) Slot.unset).toArray = ls at hl ⊢
  have hl : lv_has ls 17 [(0, .ref (A 0)), (1, .int a0), (2, .long a1), (4, .int a2), (5, .int a3), (6, .int a4)] := hl
  unfold f_K_recover at hF
  refine lv_iload_n hx hb d_K_recover_0 rfl (lv_at hl 1 rfl) ?_
  obtain ⟨x1, e_x1, hF⟩ := Option.bind_eq_some_iff.mp hF
  rcases x1 with E2 | n3
  · cases hF
  refine va_csv (va_runS (As := [.int a0]) (rest := []) ⟨hx, hb, hml, hown, hts⟩ (k_K_needSlot_ok l a0 n3 e_x1) (va_cwS 1 hts (ga_S ww_225 ww_226 ww_1 ww_227) rfl rfl rfl (by decide +kernel) ⟨by decide, by decide⟩) (pcs_pre hN) rfl rfl hl.1 rfl (lv_room (Nat.le_of_ble_eq_true rfl)) d_K_recover_1 ⟨Nat.zero_le _, Nat.zero_le _⟩).run (fun _ => ?_)
  refine lv_iload hx hb d_K_recover_4 (lv_at hl 3 rfl) ?_
  refine lv_i2l (v := Int32.toInt64 a2) hx hb d_K_recover_6 rfl ?_
  obtain ⟨r4, e_r4, hF⟩ := Option.bind_eq_some_iff.mp hF
  refine vp_callSi (va_runS (As := [.long (Int32.toInt64 a2)]) (rest := []) ⟨hx, hb, hml, hown, hts⟩ (k_S_isUnit l (Int32.toInt64 a2) r4 e_r4) (va_cwS 1 hts (ga_S ww_293 ww_294 ww_9 ww_295) rfl rfl rfl (by decide +kernel) ⟨by decide, by decide⟩) (pcs_pre hN) rfl rfl hl.1 rfl (lv_room (Nat.le_of_ble_eq_true rfl)) d_K_recover_7 ⟨Nat.zero_le _, Nat.zero_le _⟩).run (fun z9 hz9 => ?_)
  obtain rfl : r4 = z9 := hz9.symm
  obtain ⟨j5, q7, hF⟩ := Option.bind_eq_some_iff.mp hF
  have k6 : ∀ (H : Heap) (locs : List Loc) (ls : Array Slot), va_P D vwC (wK A cc g0) H → va_D AA (wK A cc g0) → va_S AA s.heap H locs → lv_has ls 17 [(0, .ref (A 0)), (1, .int a0), (2, .long a1), (4, .int a2), (5, .int a3), (6, .int a4)] → W p l e rm_K_recover s m ([Value.ref (A 0), Value.int a0, Value.long a1, Value.int a2, Value.int a3, Value.int a4] : List Value).toArray below meth c H locs 0 0 (MQ below (va_Ql (fun r u => (r, u) = res) (bw D (wK A cc) (kK cc) AA) AA) ([Value.ref (A 0), Value.int a0, Value.long a1, Value.int a2, Value.int a3, Value.int a4] : List Value).toArray s 0 0 AA) (F0 m 38 ls [.int j5]) := by
    intro H locs ls hP hD hS hl
    obtain ⟨x9, e_x9, hF⟩ := Option.bind_eq_some_iff.mp hF
    rcases x9 with E10 | n11
    · cases hF
    refine va_csv (va_runS (As := [.int j5]) (rest := []) ⟨hx, hb, hml, hown, hts⟩ (k_K_needArgument_ok l j5 n11 e_x9) (va_cwS 1 hts (ga_S ww_296 ww_297 ww_1 ww_298) rfl rfl rfl (by decide +kernel) ⟨by decide, by decide⟩) (pcs_pre hN) rfl rfl hl.1 rfl (lv_room (Nat.le_of_ble_eq_true rfl)) d_K_recover_38 ⟨Nat.zero_le _, Nat.zero_le _⟩).run (fun _ => ?_)
    refine lv_iload hx hb d_K_recover_41 (lv_at hl 5 rfl) ?_
    refine lv_iconst (v := 2) hx hb d_K_recover_43 (by decide) ?_
    refine lv_iand hx hb d_K_recover_44 ?_
    obtain ⟨j12, q14, hF⟩ := Option.bind_eq_some_iff.mp hF
    have k13 : ∀ (H : Heap) (locs : List Loc) (ls : Array Slot), va_P D vwC (wK A cc g0) H → va_D AA (wK A cc g0) → va_S AA s.heap H locs → lv_has ls 17 [(0, .ref (A 0)), (1, .int a0), (2, .long a1), (4, .int a2), (5, .int a3), (6, .int a4)] → W p l e rm_K_recover s m ([Value.ref (A 0), Value.int a0, Value.long a1, Value.int a2, Value.int a3, Value.int a4] : List Value).toArray below meth c H locs 0 0 (MQ below (va_Ql (fun r u => (r, u) = res) (bw D (wK A cc) (kK cc) AA) AA) ([Value.ref (A 0), Value.int a0, Value.long a1, Value.int a2, Value.int a3, Value.int a4] : List Value).toArray s 0 0 AA) (F0 m 61 ls [.long j12]) := by
      intro H locs ls hP hD hS hl
      refine lv_lstore hx hb d_K_recover_61 hl (by decide) (lv' := [(7, .long j12), (0, .ref (A 0)), (1, .int a0), (2, .long a1), (4, .int a2), (5, .int a3), (6, .int a4)]) rfl (fun ls hl => ?_)
      refine lv_lload hx hb d_K_recover_63 (lv_at hl 0 rfl) ?_
      refine lv_iload hx hb d_K_recover_65 (lv_at hl 6 rfl) ?_
      refine lv_iconst (v := 1) hx hb d_K_recover_67 (by decide) ?_
      refine lv_iand hx hb d_K_recover_68 ?_
      refine lv_iconst (v := 1) hx hb d_K_recover_69 (by decide) ?_
      obtain ⟨j16, q18, hF⟩ := Option.bind_eq_some_iff.mp hF
      have k17 : ∀ (H : Heap) (locs : List Loc) (ls : Array Slot), va_P D vwC (wK A cc g0) H → va_D AA (wK A cc g0) → va_S AA s.heap H locs → lv_has ls 17 [(0, .ref (A 0)), (1, .int a0), (2, .long a1), (4, .int a2), (5, .int a3)] → W p l e rm_K_recover s m ([Value.ref (A 0), Value.int a0, Value.long a1, Value.int a2, Value.int a3, Value.int a4] : List Value).toArray below meth c H locs 0 0 (MQ below (va_Ql (fun r u => (r, u) = res) (bw D (wK A cc) (kK cc) AA) AA) ([Value.ref (A 0), Value.int a0, Value.long a1, Value.int a2, Value.int a3, Value.int a4] : List Value).toArray s 0 0 AA) (F0 m 78 ls [.int j16, .long j12]) := by
        intro H locs ls hP hD hS hl
        obtain ⟨r20, e_r20, hF⟩ := Option.bind_eq_some_iff.mp hF
        refine vp_callSl (va_runS (As := [.long j12, .int j16]) (rest := []) ⟨hx, hb, hml, hown, hts⟩ (k_C_pointAt l j12 j16 r20 e_r20) (va_cwS 2 hts (ga_S ww_82 ww_83 ww_11 ww_84) rfl rfl rfl (by decide +kernel) ⟨by decide, by decide⟩) (pcs_pre hN) rfl rfl hl.1 rfl (lv_room (Nat.le_of_ble_eq_true rfl)) d_K_recover_78 ⟨Nat.zero_le _, Nat.zero_le _⟩).run (fun z9 hz9 => ?_)
        obtain rfl : r20 = z9 := hz9.symm
        refine lv_lstore hx hb d_K_recover_81 hl (by decide) (lv' := [(9, .long r20), (0, .ref (A 0)), (1, .int a0), (2, .long a1), (4, .int a2), (5, .int a3)]) rfl (fun ls hl => ?_)
        refine lv_lload hx hb d_K_recover_83 (lv_at hl 0 rfl) ?_
        refine lv_lconst (v := 0) hx hb d_K_recover_85 (by decide) ?_
        refine W.lcmp hx hb d_K_recover_86 ?_
        obtain ⟨j21, q23, hF⟩ := Option.bind_eq_some_iff.mp hF
        have k22 : ∀ (H : Heap) (locs : List Loc) (ls : Array Slot), va_P D vwC (wK A cc g0) H → va_D AA (wK A cc g0) → va_S AA s.heap H locs → lv_has ls 17 [(9, .long r20), (0, .ref (A 0)), (1, .int a0), (2, .long a1), (4, .int a2), (5, .int a3)] → W p l e rm_K_recover s m ([Value.ref (A 0), Value.int a0, Value.long a1, Value.int a2, Value.int a3, Value.int a4] : List Value).toArray below meth c H locs 0 0 (MQ below (va_Ql (fun r u => (r, u) = res) (bw D (wK A cc) (kK cc) AA) AA) ([Value.ref (A 0), Value.int a0, Value.long a1, Value.int a2, Value.int a3, Value.int a4] : List Value).toArray s 0 0 AA) (F0 m 95 ls [.int j21]) := by
          intro H locs ls hP hD hS hl
          obtain ⟨x25, e_x25, hF⟩ := Option.bind_eq_some_iff.mp hF
          rcases x25 with E26 | n27
          · cases hF
          refine va_csv (va_runS (As := [.int j21]) (rest := []) ⟨hx, hb, hml, hown, hts⟩ (k_K_needArgument_ok l j21 n27 e_x25) (va_cwS 1 hts (ga_S ww_296 ww_297 ww_1 ww_298) rfl rfl rfl (by decide +kernel) ⟨by decide, by decide⟩) (pcs_pre hN) rfl rfl hl.1 rfl (lv_room (Nat.le_of_ble_eq_true rfl)) d_K_recover_95 ⟨Nat.zero_le _, Nat.zero_le _⟩).run (fun _ => ?_)
          refine lv_iload hx hb d_K_recover_98 (lv_at hl 5 rfl) ?_
          refine lv_i2l (v := Int32.toInt64 a3) hx hb d_K_recover_100 rfl ?_
          refine lv_iload hx hb d_K_recover_101 (lv_at hl 4 rfl) ?_
          refine lv_i2l (v := Int32.toInt64 a2) hx hb d_K_recover_103 rfl ?_
          obtain ⟨r28, e_r28, hF⟩ := Option.bind_eq_some_iff.mp hF
          refine vp_callSl (va_runS (As := [.long (Int32.toInt64 a3), .long (Int32.toInt64 a2)]) (rest := []) ⟨hx, hb, hml, hown, hts⟩ (k_S_quotient l (Int32.toInt64 a3) (Int32.toInt64 a2) r28 e_r28) (va_cwS 2 hts (ga_S ww_418 ww_419 ww_9 ww_420) rfl rfl rfl (by decide +kernel) ⟨by decide, by decide⟩) (pcs_pre hN) rfl rfl hl.1 rfl (lv_room (Nat.le_of_ble_eq_true rfl)) d_K_recover_104 ⟨Nat.zero_le _, Nat.zero_le _⟩).run (fun z9 hz9 => ?_)
          obtain rfl : r28 = z9 := hz9.symm
          refine lv_lstore hx hb d_K_recover_107 hl (by decide) (lv' := [(11, .long r28), (9, .long r20), (0, .ref (A 0)), (1, .int a0), (2, .long a1), (4, .int a2), (5, .int a3)]) rfl (fun ls hl => ?_)
          refine lv_ldc2 (v := 1073729077) hx hb hown (hw _ ww_146) d_K_recover_109 ?_
          refine lv_lload_n hx hb d_K_recover_112 rfl (lv_at hl 4 rfl) ?_
          obtain ⟨r29, e_r29, hF⟩ := Option.bind_eq_some_iff.mp hF
          refine vp_callSl (va_runS (As := [.long a1]) (rest := [.long 1073729077]) ⟨hx, hb, hml, hown, hts⟩ (k_K_digest l a1 r29 e_r29) (va_cwS 1 hts (ga_S ww_413 ww_414 ww_1 ww_415) rfl rfl rfl (by decide +kernel) ⟨by decide, by decide⟩) (pcs_pre hN) rfl rfl hl.1 rfl (lv_room (Nat.le_of_ble_eq_true rfl)) d_K_recover_113 ⟨Nat.zero_le _, Nat.zero_le _⟩).run (fun z9 hz9 => ?_)
          obtain rfl : r29 = z9 := hz9.symm
          refine lv_iload hx hb d_K_recover_116 (lv_at hl 5 rfl) ?_
          refine lv_i2l (v := Int32.toInt64 a2) hx hb d_K_recover_118 rfl ?_
          obtain ⟨r30, e_r30, hF⟩ := Option.bind_eq_some_iff.mp hF
          refine vp_callSl (va_runS (As := [.long r29, .long (Int32.toInt64 a2)]) (rest := [.long 1073729077]) ⟨hx, hb, hml, hown, hts⟩ (k_S_quotient l r29 (Int32.toInt64 a2) r30 e_r30) (va_cwS 2 hts (ga_S ww_418 ww_419 ww_9 ww_420) rfl rfl rfl (by decide +kernel) ⟨by decide, by decide⟩) (pcs_pre hN) rfl rfl hl.1 rfl (lv_room (Nat.le_of_ble_eq_true rfl)) d_K_recover_119 ⟨Nat.zero_le _, Nat.zero_le _⟩).run (fun z9 hz9 => ?_)
          obtain rfl : r30 = z9 := hz9.symm
          refine lv_lsub hx hb d_K_recover_122 ?_
          obtain ⟨v31, e_v31, hF⟩ := Option.bind_eq_some_iff.mp hF
          refine nm_l (Option.some.inj e_v31) ?_
          refine lv_lstore hx hb d_K_recover_123 hl (by decide) (lv' := [(13, .long v31), (11, .long r28), (9, .long r20), (0, .ref (A 0)), (1, .int a0), (2, .long a1), (4, .int a2), (5, .int a3)]) rfl (fun ls hl => ?_)
          refine lv_lload hx hb d_K_recover_125 (lv_at hl 1 rfl) ?_
          refine lv_lload hx hb d_K_recover_127 (lv_at hl 2 rfl) ?_
          refine lv_lload hx hb d_K_recover_129 (lv_at hl 0 rfl) ?_
          refine lv_ldc2 (v := 4411025356) hx hb hown (hw _ ww_314) d_K_recover_131 ?_
          obtain ⟨r32, e_r32, hF⟩ := Option.bind_eq_some_iff.mp hF
          refine vp_callSl (va_runS (As := [.long r28, .long r20, .long v31, .long 4411025356]) (rest := []) ⟨hx, hb, hml, hown, hts⟩ (k_C_sumOfMultiples l r28 r20 v31 4411025356 r32 e_r32) (va_cwS 4 hts (ga_S ww_384 ww_149 ww_11 ww_150) rfl rfl rfl (by decide +kernel) ⟨by decide, by decide⟩) (pcs_pre hN) rfl rfl hl.1 rfl (lv_room (Nat.le_of_ble_eq_true rfl)) d_K_recover_134 ⟨Nat.zero_le _, Nat.zero_le _⟩).run (fun z9 hz9 => ?_)
          obtain rfl : r32 = z9 := hz9.symm
          refine lv_lstore hx hb d_K_recover_137 hl (by decide) (lv' := [(15, .long r32), (13, .long v31), (11, .long r28), (9, .long r20), (0, .ref (A 0)), (1, .int a0), (2, .long a1), (4, .int a2), (5, .int a3)]) rfl (fun ls hl => ?_)
          refine lv_lload hx hb d_K_recover_139 (lv_at hl 0 rfl) ?_
          refine lv_lconst (v := 0) hx hb d_K_recover_141 (by decide) ?_
          refine W.lcmp hx hb d_K_recover_142 ?_
          obtain ⟨j33, q35, hF⟩ := Option.bind_eq_some_iff.mp hF
          have k34 : ∀ (H : Heap) (locs : List Loc) (ls : Array Slot), va_P D vwC (wK A cc g0) H → va_D AA (wK A cc g0) → va_S AA s.heap H locs → lv_has ls 17 [(15, .long r32), (0, .ref (A 0)), (1, .int a0)] → W p l e rm_K_recover s m ([Value.ref (A 0), Value.int a0, Value.long a1, Value.int a2, Value.int a3, Value.int a4] : List Value).toArray below meth c H locs 0 0 (MQ below (va_Ql (fun r u => (r, u) = res) (bw D (wK A cc) (kK cc) AA) AA) ([Value.ref (A 0), Value.int a0, Value.long a1, Value.int a2, Value.int a3, Value.int a4] : List Value).toArray s 0 0 AA) (F0 m 151 ls [.int j33]) := by
            intro H locs ls hP hD hS hl
            obtain ⟨x37, e_x37, hF⟩ := Option.bind_eq_some_iff.mp hF
            rcases x37 with E38 | n39
            · cases hF
            refine va_csv (va_runS (As := [.int j33]) (rest := []) ⟨hx, hb, hml, hown, hts⟩ (k_K_needArgument_ok l j33 n39 e_x37) (va_cwS 1 hts (ga_S ww_296 ww_297 ww_1 ww_298) rfl rfl rfl (by decide +kernel) ⟨by decide, by decide⟩) (pcs_pre hN) rfl rfl hl.1 rfl (lv_room (Nat.le_of_ble_eq_true rfl)) d_K_recover_151 ⟨Nat.zero_le _, Nat.zero_le _⟩).run (fun _ => ?_)
            refine lv_aload_n hx hb d_K_recover_154 rfl (lv_at hl 1 rfl) ?_
            refine lv_iload_n hx hb d_K_recover_155 rfl (lv_at hl 2 rfl) ?_
            refine lv_lload hx hb d_K_recover_156 (lv_at hl 0 rfl) ?_
            refine lv_lconst (v := 0) hx hb d_K_recover_158 (by decide) ?_
            obtain ⟨⟨r41, g40⟩, e_g40, hF⟩ := Option.bind_eq_some_iff.mp hF
            have hFc := va_free (wc := wK A cc g0) hD hS hA [0, 1, 2, 3, 4, 5, 6, 7, 8, 9] rfl
            refine va_calll (va_runV (As := [.int a0, .long r32, .long 0]) (rest := []) ⟨hx, hb, hml, hown, hts⟩ (k_K_fill l D A cc g0 a0 r32 0 _ (r41, g40) e_g40) (cwV 3 hts (ga_V ww_316 ww_318 wp_4 ww_1 ww_319) rfl rfl rfl (by decide +kernel) ⟨by decide, by decide⟩) (pw_pre (q0 := 0) (ci := 2) hP hK hD hN rfl rfl) rfl rfl hl.1 rfl (lv_room (Nat.le_of_ble_eq_true rfl)) d_K_recover_159 ⟨Nat.zero_le _, Nat.zero_le _⟩) hS (fun q _ h => hFc q h) hFc (fun r9 u9 t H locs ht hvm hp hB hz1 hk1 hS => ?_)
            obtain ⟨rfl, rfl⟩ := Prod.mk.inj hp.symm
            obtain ⟨hP, hD⟩ := bw_back hB ht hFc
            cases hF
            exact W.lret hx hb hr (fun t ht hW => ⟨⟨_, _, rfl, rfl, bw_end hP hK hD ht hW⟩, hS.F ht⟩) hS.2.2 d_K_recover_162
          clear hF
          have hF := q35
          refine lv_if_eq hx hb d_K_recover_143 (tgt := 150) (by decide) (fun h9 => ?_) (fun h9 => ?_)
          · have hF := (if_pos h9).symm.trans hF
            refine lv_iconst (v := 0) hx hb d_K_recover_150 (by decide) ?_
            obtain rfl := Option.some.inj hF
            exact k34 _ _ ls hP hD hS (lv_sub hl [0, 4, 5] rfl)
          · have hF := (if_neg h9).symm.trans hF
            refine lv_iconst (v := 1) hx hb d_K_recover_146 (by decide) ?_
            refine lv_goto hx hb d_K_recover_147 (tgt := 151) (by decide) ?_
            obtain rfl := Option.some.inj hF
            exact k34 _ _ ls hP hD hS (lv_sub hl [0, 4, 5] rfl)
        clear hF
        have hF := q23
        refine lv_if_eq hx hb d_K_recover_87 (tgt := 94) (by decide) (fun h9 => ?_) (fun h9 => ?_)
        · have hF := (if_pos h9).symm.trans hF
          refine lv_iconst (v := 0) hx hb d_K_recover_94 (by decide) ?_
          obtain rfl := Option.some.inj hF
          exact k22 _ _ ls hP hD hS (lv_sub hl [0, 1, 2, 3, 4, 5] rfl)
        · have hF := (if_neg h9).symm.trans hF
          refine lv_iconst (v := 1) hx hb d_K_recover_90 (by decide) ?_
          refine lv_goto hx hb d_K_recover_91 (tgt := 95) (by decide) ?_
          obtain rfl := Option.some.inj hF
          exact k22 _ _ ls hP hD hS (lv_sub hl [0, 1, 2, 3, 4, 5] rfl)
      clear hF
      have hF := q18
      refine lv_icmp_ne hx hb d_K_recover_70 (tgt := 77) (by decide) (fun h9 => ?_) (fun h9 => ?_)
      · have hF := (if_neg h9).symm.trans hF
        refine lv_iconst (v := 0) hx hb d_K_recover_77 (by decide) ?_
        obtain rfl := Option.some.inj hF
        exact k17 _ _ ls hP hD hS (lv_sub hl [1, 2, 3, 4, 5] rfl)
      · have hF := (if_pos h9).symm.trans hF
        refine lv_iconst (v := 1) hx hb d_K_recover_73 (by decide) ?_
        refine lv_goto hx hb d_K_recover_74 (tgt := 78) (by decide) ?_
        obtain rfl := Option.some.inj hF
        exact k17 _ _ ls hP hD hS (lv_sub hl [1, 2, 3, 4, 5] rfl)
    clear hF
    have hF := q14
    refine lv_if_ne hx hb d_K_recover_45 (tgt := 54) (by decide) (fun h9 => ?_) (fun h9 => ?_)
    · have hF := (if_neg h9).symm.trans hF
      refine lv_iload hx hb d_K_recover_54 (lv_at hl 3 rfl) ?_
      refine lv_i2l (v := Int32.toInt64 a2) hx hb d_K_recover_56 rfl ?_
      refine lv_ldc2 (v := 1073729077) hx hb hown (hw _ ww_146) d_K_recover_57 ?_
      refine lv_ladd hx hb d_K_recover_60 ?_
      obtain rfl := Option.some.inj hF
      exact k13 _ _ ls hP hD hS (lv_sub hl [0, 1, 2, 3, 4, 5] rfl)
    · have hF := (if_pos h9).symm.trans hF
      refine lv_iload hx hb d_K_recover_48 (lv_at hl 3 rfl) ?_
      refine lv_i2l (v := Int32.toInt64 a2) hx hb d_K_recover_50 rfl ?_
      refine lv_goto hx hb d_K_recover_51 (tgt := 61) (by decide) ?_
      obtain rfl := Option.some.inj hF
      exact k13 _ _ ls hP hD hS (lv_sub hl [0, 1, 2, 3, 4, 5] rfl)
  clear hF
  have hF := q7
  refine lv_if_eq hx hb d_K_recover_10 (tgt := 37) (by decide) (fun h9 => ?_) (fun h9 => ?_)
  · have hF := (if_pos h9).symm.trans hF
    refine lv_iconst (v := 0) hx hb d_K_recover_37 (by decide) ?_
    obtain rfl := Option.some.inj hF
    exact k6 _ _ ls hP hD hS (lv_sub hl [0, 1, 2, 3, 4, 5] rfl)
  · have hF := (if_neg h9).symm.trans hF
    refine lv_iload hx hb d_K_recover_13 (lv_at hl 4 rfl) ?_
    refine lv_i2l (v := Int32.toInt64 a3) hx hb d_K_recover_15 rfl ?_
    obtain ⟨r43, e_r43, hF⟩ := Option.bind_eq_some_iff.mp hF
    refine vp_callSi (va_runS (As := [.long (Int32.toInt64 a3)]) (rest := []) ⟨hx, hb, hml, hown, hts⟩ (k_S_isUnit l (Int32.toInt64 a3) r43 e_r43) (va_cwS 1 hts (ga_S ww_293 ww_294 ww_9 ww_295) rfl rfl rfl (by decide +kernel) ⟨by decide, by decide⟩) (pcs_pre hN) rfl rfl hl.1 rfl (lv_room (Nat.le_of_ble_eq_true rfl)) d_K_recover_16 ⟨Nat.zero_le _, Nat.zero_le _⟩).run (fun z9 hz9 => ?_)
    obtain rfl : r43 = z9 := hz9.symm
    refine lv_if_eq hx hb d_K_recover_19 (tgt := 37) (by decide) (fun h9 => ?_) (fun h9 => ?_)
    · have hF := (if_pos h9).symm.trans hF
      refine lv_iconst (v := 0) hx hb d_K_recover_37 (by decide) ?_
      obtain rfl := Option.some.inj hF
      exact k6 _ _ ls hP hD hS (lv_sub hl [0, 1, 2, 3, 4, 5] rfl)
    · have hF := (if_neg h9).symm.trans hF
      refine lv_iload hx hb d_K_recover_22 (lv_at hl 5 rfl) ?_
      refine lv_if_lt hx hb d_K_recover_24 (tgt := 37) (by decide) (fun h9 => ?_) (fun h9 => ?_)
      · have hF := (if_pos h9).symm.trans hF
        refine lv_iconst (v := 0) hx hb d_K_recover_37 (by decide) ?_
        obtain rfl := Option.some.inj hF
        exact k6 _ _ ls hP hD hS (lv_sub hl [0, 1, 2, 3, 4, 5] rfl)
      · have hF := (if_neg h9).symm.trans hF
        refine lv_iload hx hb d_K_recover_27 (lv_at hl 5 rfl) ?_
        refine lv_iconst (v := 3) hx hb d_K_recover_29 (by decide) ?_
        refine lv_icmp_gt hx hb d_K_recover_30 (tgt := 37) (by decide) (fun h9 => ?_) (fun h9 => ?_)
        · have hF := (if_pos h9).symm.trans hF
          refine lv_iconst (v := 0) hx hb d_K_recover_37 (by decide) ?_
          obtain rfl := Option.some.inj hF
          exact k6 _ _ ls hP hD hS (lv_sub hl [0, 1, 2, 3, 4, 5] rfl)
        · have hF := (if_neg h9).symm.trans hF
          refine lv_iconst (v := 1) hx hb d_K_recover_33 (by decide) ?_
          refine lv_goto hx hb d_K_recover_34 (tgt := 38) (by decide) ?_
          obtain rfl := Option.some.inj hF
          exact k6 _ _ ls hP hD hS (lv_sub hl [0, 1, 2, 3, 4, 5] rfl)
set_option maxHeartbeats 4000000 in
set_option maxRecDepth 100000 in
theorem k_K_recover_er (l : Launch) (hl0 : l.stackTraces = false) (D : va_G) (A : Nat → Nat) (cc : Nat → ClassId) (g0 : sK) (a0 : Int32) (a1 : Int64) (a2 : Int32) (a3 : Int32) (a4 : Int32) (sz : Nat) (E0 : String) (gE : sK) (hF : f_K_recover g0 a0 a1 a2 a3 a4 = some (.error (E0, gE))) : vx_Met l y_K_recover (Cond.code y_K_recover b_K_recover 17 (some .long) :: wa) rx_K_recover (pwx D (wK A cc g0) (kK cc) [.ref (A 0), .int a0, .long a1, .int a2, .int a3, .int a4] sz) (va_Ql (fun _ (_ : Unit) => False) (fun _ _ => True) (va_A (wK A cc g0) sz)) (vx_X (fun u => u = gE) (fun E u t => E = E0 ∧ bw D (wK A cc) (kK cc) (va_A (wK A cc g0) sz) u t) (va_A (wK A cc g0) sz)) 1 6 (va_A (wK A cc g0) sz) := by
  refine vx_ofW (cc := b_K_recover) (maxL := 17) (ret := (some .long)) (by decide) rfl ?_
  intro p e s m args below meth c s₁ B hml hout hv
  obtain ⟨⟨rfl, hsz, hP, hK, hD0, hN⟩, hX, hZ⟩ := hv
  subst hsz
  have hD := hD0.self (sz := s.heap.size)
  generalize hAe : va_A (wK A cc g0) s.heap.size = AA at hD hZ ⊢
  have hx := B.exec
  have hb := B.bytes
  have hr := B.returns
  have hts := atoms_spec (ws := Cond.code y_K_recover b_K_recover 17 (some .long) :: wa) B.pre
  have hw : ∀ w ∈ wa, w.before _ s = true := fun w h => hts w (List.mem_cons_of_mem _ h)
  have hown : s.vm.findClass R_K = some m.cls := findClass_of_methodNamed B.named
  have hlocks := B.notSynchronized
  have hA : ∀ q : Nat, s.heap.size ≤ q → AA q := fun q h => by rw [← hAe]; exact Or.inr h
  have hS : va_S AA s.heap s.heap [] := va_S.rf
  have hl := lv_entry ([.ref (A 0), .int a0, .long a1, .int a2, .int a3, .int a4]) (n := 17) (Nat.le_of_ble_eq_true rfl)
  rw [lg_entry_eq]
  generalize (lg_sl ([.ref (A 0), .int a0, .long a1, .int a2, .int a3, .int a4]) ++ List.replicate (17 - (lg_sl ([.ref (A 0), .int a0, .long a1, .int a2, .int a3, .int a4])).length) Slot.unset).toArray = ls at hl ⊢
  have hl : lv_has ls 17 [(0, .ref (A 0)), (1, .int a0), (2, .long a1), (4, .int a2), (5, .int a3), (6, .int a4)] := hl
  unfold f_K_recover at hF
  refine lv_iload_n hx hb d_K_recover_0 rfl (lv_at hl 1 rfl) ?_
  obtain ⟨x1, e_x1, hF⟩ := Option.bind_eq_some_iff.mp hF
  rcases x1 with E2 | n3
  · cases hF
    have hFc : ∀ q, fr (Array.size _) q → AA q := fun q h => hA q (Nat.le_trans hS.1 h)
    refine vx_callv (vx_runS (As := [.int a0]) (rest := []) ⟨hx, hb, hml, hown, hts⟩ (k_K_needSlot_er l hl0 a0 _ _ e_x1) (va_cwS 1 hts (ga_S ww_225 ww_226 ww_1 ww_227) rfl rfl rfl (by decide +kernel) ⟨by decide, by decide⟩) (pcx_pre hN hX hZ hS hA) rfl rfl hl.1 rfl (lv_room (Nat.le_of_ble_eq_true rfl)) d_K_recover_1 ⟨Nat.le_of_ble_eq_true rfl, Nat.le_of_ble_eq_true rfl⟩) hS (fun q _ h => hFc q h) hFc (fun q _ h => hFc q h) (fun E ce q9 u t H1 locs ht hvm hpx hBX hz hk hS hce hcv hcl => ?_) (fun u t H1 locs _ _ hp _ _ _ _ => hp.elim)
    obtain rfl := hBX
    have hk : ∀ q : Nat, q < _ → H1[q]? = _ := fun q h => hk q h (fun z => Nat.lt_irrefl _ (Nat.lt_of_lt_of_le h z))
    have hP := xt_P hP hk
    exact vx_out (fun x h => (hout x h).elim) hlocks hce hcv hcl (fun t9 ht9 ha9 => ⟨_, rfl, ⟨rfl, by rw [ht9]; exact hP, va_K.moved ha9 hK, hD⟩, hS.F ht9⟩) hS.2.2 (Nat.le_of_ble_eq_true rfl) (Nat.le_of_ble_eq_true rfl)
  refine va_csv (va_runS (As := [.int a0]) (rest := []) ⟨hx, hb, hml, hown, hts⟩ (k_K_needSlot_ok l a0 n3 e_x1) (va_cwS 1 hts (ga_S ww_225 ww_226 ww_1 ww_227) rfl rfl rfl (by decide +kernel) ⟨by decide, by decide⟩) (pcs_pre hN) rfl rfl hl.1 rfl (lv_room (Nat.le_of_ble_eq_true rfl)) d_K_recover_1 ⟨Nat.zero_le _, Nat.zero_le _⟩).run (fun _ => ?_)
  refine lv_iload hx hb d_K_recover_4 (lv_at hl 3 rfl) ?_
  refine lv_i2l (v := Int32.toInt64 a2) hx hb d_K_recover_6 rfl ?_
  obtain ⟨r4, e_r4, hF⟩ := Option.bind_eq_some_iff.mp hF
  refine vp_callSi (va_runS (As := [.long (Int32.toInt64 a2)]) (rest := []) ⟨hx, hb, hml, hown, hts⟩ (k_S_isUnit l (Int32.toInt64 a2) r4 e_r4) (va_cwS 1 hts (ga_S ww_293 ww_294 ww_9 ww_295) rfl rfl rfl (by decide +kernel) ⟨by decide, by decide⟩) (pcs_pre hN) rfl rfl hl.1 rfl (lv_room (Nat.le_of_ble_eq_true rfl)) d_K_recover_7 ⟨Nat.zero_le _, Nat.zero_le _⟩).run (fun z9 hz9 => ?_)
  obtain rfl : r4 = z9 := hz9.symm
  obtain ⟨j5, q7, hF⟩ := Option.bind_eq_some_iff.mp hF
  have k6 : ∀ (H : Heap) (locs : List Loc) (ls : Array Slot), va_P D vwC (wK A cc g0) H → va_D AA (wK A cc g0) → va_S AA s.heap H locs → lv_has ls 17 [(0, .ref (A 0)), (1, .int a0), (2, .long a1), (4, .int a2), (5, .int a3), (6, .int a4)] → W p l e rx_K_recover s m ([Value.ref (A 0), Value.int a0, Value.long a1, Value.int a2, Value.int a3, Value.int a4] : List Value).toArray below meth c H locs 0 0 (vx_MQ below (va_Ql (fun _ (_ : Unit) => False) (fun _ _ => True) AA) (vx_X (fun u => u = gE) (fun E u t => E = E0 ∧ bw D (wK A cc) (kK cc) AA u t) AA) ([Value.ref (A 0), Value.int a0, Value.long a1, Value.int a2, Value.int a3, Value.int a4] : List Value).toArray s 1 6 AA) (F0 m 38 ls [.int j5]) := by
    intro H locs ls hP hD hS hl
    obtain ⟨x9, e_x9, hF⟩ := Option.bind_eq_some_iff.mp hF
    rcases x9 with E10 | n11
    · cases hF
      have hFc : ∀ q, fr (Array.size _) q → AA q := fun q h => hA q (Nat.le_trans hS.1 h)
      refine vx_callv (vx_runS (As := [.int j5]) (rest := []) ⟨hx, hb, hml, hown, hts⟩ (k_K_needArgument_er l hl0 j5 _ _ e_x9) (va_cwS 1 hts (ga_S ww_296 ww_297 ww_1 ww_298) rfl rfl rfl (by decide +kernel) ⟨by decide, by decide⟩) (pcx_pre hN hX hZ hS hA) rfl rfl hl.1 rfl (lv_room (Nat.le_of_ble_eq_true rfl)) d_K_recover_38 ⟨Nat.le_of_ble_eq_true rfl, Nat.le_of_ble_eq_true rfl⟩) hS (fun q _ h => hFc q h) hFc (fun q _ h => hFc q h) (fun E ce q9 u t H1 locs ht hvm hpx hBX hz hk hS hce hcv hcl => ?_) (fun u t H1 locs _ _ hp _ _ _ _ => hp.elim)
      obtain rfl := hBX
      have hk : ∀ q : Nat, q < _ → H1[q]? = _ := fun q h => hk q h (fun z => Nat.lt_irrefl _ (Nat.lt_of_lt_of_le h z))
      have hP := xt_P hP hk
      exact vx_out (fun x h => (hout x h).elim) hlocks hce hcv hcl (fun t9 ht9 ha9 => ⟨_, rfl, ⟨rfl, by rw [ht9]; exact hP, va_K.moved ha9 hK, hD⟩, hS.F ht9⟩) hS.2.2 (Nat.le_of_ble_eq_true rfl) (Nat.le_of_ble_eq_true rfl)
    refine va_csv (va_runS (As := [.int j5]) (rest := []) ⟨hx, hb, hml, hown, hts⟩ (k_K_needArgument_ok l j5 n11 e_x9) (va_cwS 1 hts (ga_S ww_296 ww_297 ww_1 ww_298) rfl rfl rfl (by decide +kernel) ⟨by decide, by decide⟩) (pcs_pre hN) rfl rfl hl.1 rfl (lv_room (Nat.le_of_ble_eq_true rfl)) d_K_recover_38 ⟨Nat.zero_le _, Nat.zero_le _⟩).run (fun _ => ?_)
    refine lv_iload hx hb d_K_recover_41 (lv_at hl 5 rfl) ?_
    refine lv_iconst (v := 2) hx hb d_K_recover_43 (by decide) ?_
    refine lv_iand hx hb d_K_recover_44 ?_
    obtain ⟨j12, q14, hF⟩ := Option.bind_eq_some_iff.mp hF
    have k13 : ∀ (H : Heap) (locs : List Loc) (ls : Array Slot), va_P D vwC (wK A cc g0) H → va_D AA (wK A cc g0) → va_S AA s.heap H locs → lv_has ls 17 [(0, .ref (A 0)), (1, .int a0), (2, .long a1), (4, .int a2), (5, .int a3), (6, .int a4)] → W p l e rx_K_recover s m ([Value.ref (A 0), Value.int a0, Value.long a1, Value.int a2, Value.int a3, Value.int a4] : List Value).toArray below meth c H locs 0 0 (vx_MQ below (va_Ql (fun _ (_ : Unit) => False) (fun _ _ => True) AA) (vx_X (fun u => u = gE) (fun E u t => E = E0 ∧ bw D (wK A cc) (kK cc) AA u t) AA) ([Value.ref (A 0), Value.int a0, Value.long a1, Value.int a2, Value.int a3, Value.int a4] : List Value).toArray s 1 6 AA) (F0 m 61 ls [.long j12]) := by
      intro H locs ls hP hD hS hl
      refine lv_lstore hx hb d_K_recover_61 hl (by decide) (lv' := [(7, .long j12), (0, .ref (A 0)), (1, .int a0), (2, .long a1), (4, .int a2), (5, .int a3), (6, .int a4)]) rfl (fun ls hl => ?_)
      refine lv_lload hx hb d_K_recover_63 (lv_at hl 0 rfl) ?_
      refine lv_iload hx hb d_K_recover_65 (lv_at hl 6 rfl) ?_
      refine lv_iconst (v := 1) hx hb d_K_recover_67 (by decide) ?_
      refine lv_iand hx hb d_K_recover_68 ?_
      refine lv_iconst (v := 1) hx hb d_K_recover_69 (by decide) ?_
      obtain ⟨j16, q18, hF⟩ := Option.bind_eq_some_iff.mp hF
      have k17 : ∀ (H : Heap) (locs : List Loc) (ls : Array Slot), va_P D vwC (wK A cc g0) H → va_D AA (wK A cc g0) → va_S AA s.heap H locs → lv_has ls 17 [(0, .ref (A 0)), (1, .int a0), (2, .long a1), (4, .int a2), (5, .int a3)] → W p l e rx_K_recover s m ([Value.ref (A 0), Value.int a0, Value.long a1, Value.int a2, Value.int a3, Value.int a4] : List Value).toArray below meth c H locs 0 0 (vx_MQ below (va_Ql (fun _ (_ : Unit) => False) (fun _ _ => True) AA) (vx_X (fun u => u = gE) (fun E u t => E = E0 ∧ bw D (wK A cc) (kK cc) AA u t) AA) ([Value.ref (A 0), Value.int a0, Value.long a1, Value.int a2, Value.int a3, Value.int a4] : List Value).toArray s 1 6 AA) (F0 m 78 ls [.int j16, .long j12]) := by
        intro H locs ls hP hD hS hl
        obtain ⟨r20, e_r20, hF⟩ := Option.bind_eq_some_iff.mp hF
        refine vp_callSl (va_runS (As := [.long j12, .int j16]) (rest := []) ⟨hx, hb, hml, hown, hts⟩ (k_C_pointAt l j12 j16 r20 e_r20) (va_cwS 2 hts (ga_S ww_82 ww_83 ww_11 ww_84) rfl rfl rfl (by decide +kernel) ⟨by decide, by decide⟩) (pcs_pre hN) rfl rfl hl.1 rfl (lv_room (Nat.le_of_ble_eq_true rfl)) d_K_recover_78 ⟨Nat.zero_le _, Nat.zero_le _⟩).run (fun z9 hz9 => ?_)
        obtain rfl : r20 = z9 := hz9.symm
        refine lv_lstore hx hb d_K_recover_81 hl (by decide) (lv' := [(9, .long r20), (0, .ref (A 0)), (1, .int a0), (2, .long a1), (4, .int a2), (5, .int a3)]) rfl (fun ls hl => ?_)
        refine lv_lload hx hb d_K_recover_83 (lv_at hl 0 rfl) ?_
        refine lv_lconst (v := 0) hx hb d_K_recover_85 (by decide) ?_
        refine W.lcmp hx hb d_K_recover_86 ?_
        obtain ⟨j21, q23, hF⟩ := Option.bind_eq_some_iff.mp hF
        have k22 : ∀ (H : Heap) (locs : List Loc) (ls : Array Slot), va_P D vwC (wK A cc g0) H → va_D AA (wK A cc g0) → va_S AA s.heap H locs → lv_has ls 17 [(9, .long r20), (0, .ref (A 0)), (1, .int a0), (2, .long a1), (4, .int a2), (5, .int a3)] → W p l e rx_K_recover s m ([Value.ref (A 0), Value.int a0, Value.long a1, Value.int a2, Value.int a3, Value.int a4] : List Value).toArray below meth c H locs 0 0 (vx_MQ below (va_Ql (fun _ (_ : Unit) => False) (fun _ _ => True) AA) (vx_X (fun u => u = gE) (fun E u t => E = E0 ∧ bw D (wK A cc) (kK cc) AA u t) AA) ([Value.ref (A 0), Value.int a0, Value.long a1, Value.int a2, Value.int a3, Value.int a4] : List Value).toArray s 1 6 AA) (F0 m 95 ls [.int j21]) := by
          intro H locs ls hP hD hS hl
          obtain ⟨x25, e_x25, hF⟩ := Option.bind_eq_some_iff.mp hF
          rcases x25 with E26 | n27
          · cases hF
            have hFc : ∀ q, fr (Array.size _) q → AA q := fun q h => hA q (Nat.le_trans hS.1 h)
            refine vx_callv (vx_runS (As := [.int j21]) (rest := []) ⟨hx, hb, hml, hown, hts⟩ (k_K_needArgument_er l hl0 j21 _ _ e_x25) (va_cwS 1 hts (ga_S ww_296 ww_297 ww_1 ww_298) rfl rfl rfl (by decide +kernel) ⟨by decide, by decide⟩) (pcx_pre hN hX hZ hS hA) rfl rfl hl.1 rfl (lv_room (Nat.le_of_ble_eq_true rfl)) d_K_recover_95 ⟨Nat.le_of_ble_eq_true rfl, Nat.le_of_ble_eq_true rfl⟩) hS (fun q _ h => hFc q h) hFc (fun q _ h => hFc q h) (fun E ce q9 u t H1 locs ht hvm hpx hBX hz hk hS hce hcv hcl => ?_) (fun u t H1 locs _ _ hp _ _ _ _ => hp.elim)
            obtain rfl := hBX
            have hk : ∀ q : Nat, q < _ → H1[q]? = _ := fun q h => hk q h (fun z => Nat.lt_irrefl _ (Nat.lt_of_lt_of_le h z))
            have hP := xt_P hP hk
            exact vx_out (fun x h => (hout x h).elim) hlocks hce hcv hcl (fun t9 ht9 ha9 => ⟨_, rfl, ⟨rfl, by rw [ht9]; exact hP, va_K.moved ha9 hK, hD⟩, hS.F ht9⟩) hS.2.2 (Nat.le_of_ble_eq_true rfl) (Nat.le_of_ble_eq_true rfl)
          refine va_csv (va_runS (As := [.int j21]) (rest := []) ⟨hx, hb, hml, hown, hts⟩ (k_K_needArgument_ok l j21 n27 e_x25) (va_cwS 1 hts (ga_S ww_296 ww_297 ww_1 ww_298) rfl rfl rfl (by decide +kernel) ⟨by decide, by decide⟩) (pcs_pre hN) rfl rfl hl.1 rfl (lv_room (Nat.le_of_ble_eq_true rfl)) d_K_recover_95 ⟨Nat.zero_le _, Nat.zero_le _⟩).run (fun _ => ?_)
          refine lv_iload hx hb d_K_recover_98 (lv_at hl 5 rfl) ?_
          refine lv_i2l (v := Int32.toInt64 a3) hx hb d_K_recover_100 rfl ?_
          refine lv_iload hx hb d_K_recover_101 (lv_at hl 4 rfl) ?_
          refine lv_i2l (v := Int32.toInt64 a2) hx hb d_K_recover_103 rfl ?_
          obtain ⟨r28, e_r28, hF⟩ := Option.bind_eq_some_iff.mp hF
          refine vp_callSl (va_runS (As := [.long (Int32.toInt64 a3), .long (Int32.toInt64 a2)]) (rest := []) ⟨hx, hb, hml, hown, hts⟩ (k_S_quotient l (Int32.toInt64 a3) (Int32.toInt64 a2) r28 e_r28) (va_cwS 2 hts (ga_S ww_418 ww_419 ww_9 ww_420) rfl rfl rfl (by decide +kernel) ⟨by decide, by decide⟩) (pcs_pre hN) rfl rfl hl.1 rfl (lv_room (Nat.le_of_ble_eq_true rfl)) d_K_recover_104 ⟨Nat.zero_le _, Nat.zero_le _⟩).run (fun z9 hz9 => ?_)
          obtain rfl : r28 = z9 := hz9.symm
          refine lv_lstore hx hb d_K_recover_107 hl (by decide) (lv' := [(11, .long r28), (9, .long r20), (0, .ref (A 0)), (1, .int a0), (2, .long a1), (4, .int a2), (5, .int a3)]) rfl (fun ls hl => ?_)
          refine lv_ldc2 (v := 1073729077) hx hb hown (hw _ ww_146) d_K_recover_109 ?_
          refine lv_lload_n hx hb d_K_recover_112 rfl (lv_at hl 4 rfl) ?_
          obtain ⟨r29, e_r29, hF⟩ := Option.bind_eq_some_iff.mp hF
          refine vp_callSl (va_runS (As := [.long a1]) (rest := [.long 1073729077]) ⟨hx, hb, hml, hown, hts⟩ (k_K_digest l a1 r29 e_r29) (va_cwS 1 hts (ga_S ww_413 ww_414 ww_1 ww_415) rfl rfl rfl (by decide +kernel) ⟨by decide, by decide⟩) (pcs_pre hN) rfl rfl hl.1 rfl (lv_room (Nat.le_of_ble_eq_true rfl)) d_K_recover_113 ⟨Nat.zero_le _, Nat.zero_le _⟩).run (fun z9 hz9 => ?_)
          obtain rfl : r29 = z9 := hz9.symm
          refine lv_iload hx hb d_K_recover_116 (lv_at hl 5 rfl) ?_
          refine lv_i2l (v := Int32.toInt64 a2) hx hb d_K_recover_118 rfl ?_
          obtain ⟨r30, e_r30, hF⟩ := Option.bind_eq_some_iff.mp hF
          refine vp_callSl (va_runS (As := [.long r29, .long (Int32.toInt64 a2)]) (rest := [.long 1073729077]) ⟨hx, hb, hml, hown, hts⟩ (k_S_quotient l r29 (Int32.toInt64 a2) r30 e_r30) (va_cwS 2 hts (ga_S ww_418 ww_419 ww_9 ww_420) rfl rfl rfl (by decide +kernel) ⟨by decide, by decide⟩) (pcs_pre hN) rfl rfl hl.1 rfl (lv_room (Nat.le_of_ble_eq_true rfl)) d_K_recover_119 ⟨Nat.zero_le _, Nat.zero_le _⟩).run (fun z9 hz9 => ?_)
          obtain rfl : r30 = z9 := hz9.symm
          refine lv_lsub hx hb d_K_recover_122 ?_
          obtain ⟨v31, e_v31, hF⟩ := Option.bind_eq_some_iff.mp hF
          refine nm_l (Option.some.inj e_v31) ?_
          refine lv_lstore hx hb d_K_recover_123 hl (by decide) (lv' := [(13, .long v31), (11, .long r28), (9, .long r20), (0, .ref (A 0)), (1, .int a0), (2, .long a1), (4, .int a2), (5, .int a3)]) rfl (fun ls hl => ?_)
          refine lv_lload hx hb d_K_recover_125 (lv_at hl 1 rfl) ?_
          refine lv_lload hx hb d_K_recover_127 (lv_at hl 2 rfl) ?_
          refine lv_lload hx hb d_K_recover_129 (lv_at hl 0 rfl) ?_
          refine lv_ldc2 (v := 4411025356) hx hb hown (hw _ ww_314) d_K_recover_131 ?_
          obtain ⟨r32, e_r32, hF⟩ := Option.bind_eq_some_iff.mp hF
          refine vp_callSl (va_runS (As := [.long r28, .long r20, .long v31, .long 4411025356]) (rest := []) ⟨hx, hb, hml, hown, hts⟩ (k_C_sumOfMultiples l r28 r20 v31 4411025356 r32 e_r32) (va_cwS 4 hts (ga_S ww_384 ww_149 ww_11 ww_150) rfl rfl rfl (by decide +kernel) ⟨by decide, by decide⟩) (pcs_pre hN) rfl rfl hl.1 rfl (lv_room (Nat.le_of_ble_eq_true rfl)) d_K_recover_134 ⟨Nat.zero_le _, Nat.zero_le _⟩).run (fun z9 hz9 => ?_)
          obtain rfl : r32 = z9 := hz9.symm
          refine lv_lstore hx hb d_K_recover_137 hl (by decide) (lv' := [(15, .long r32), (13, .long v31), (11, .long r28), (9, .long r20), (0, .ref (A 0)), (1, .int a0), (2, .long a1), (4, .int a2), (5, .int a3)]) rfl (fun ls hl => ?_)
          refine lv_lload hx hb d_K_recover_139 (lv_at hl 0 rfl) ?_
          refine lv_lconst (v := 0) hx hb d_K_recover_141 (by decide) ?_
          refine W.lcmp hx hb d_K_recover_142 ?_
          obtain ⟨j33, q35, hF⟩ := Option.bind_eq_some_iff.mp hF
          have k34 : ∀ (H : Heap) (locs : List Loc) (ls : Array Slot), va_P D vwC (wK A cc g0) H → va_D AA (wK A cc g0) → va_S AA s.heap H locs → lv_has ls 17 [(15, .long r32), (0, .ref (A 0)), (1, .int a0)] → W p l e rx_K_recover s m ([Value.ref (A 0), Value.int a0, Value.long a1, Value.int a2, Value.int a3, Value.int a4] : List Value).toArray below meth c H locs 0 0 (vx_MQ below (va_Ql (fun _ (_ : Unit) => False) (fun _ _ => True) AA) (vx_X (fun u => u = gE) (fun E u t => E = E0 ∧ bw D (wK A cc) (kK cc) AA u t) AA) ([Value.ref (A 0), Value.int a0, Value.long a1, Value.int a2, Value.int a3, Value.int a4] : List Value).toArray s 1 6 AA) (F0 m 151 ls [.int j33]) := by
            intro H locs ls hP hD hS hl
            obtain ⟨x37, e_x37, hF⟩ := Option.bind_eq_some_iff.mp hF
            rcases x37 with E38 | n39
            · cases hF
              have hFc : ∀ q, fr (Array.size _) q → AA q := fun q h => hA q (Nat.le_trans hS.1 h)
              refine vx_callv (vx_runS (As := [.int j33]) (rest := []) ⟨hx, hb, hml, hown, hts⟩ (k_K_needArgument_er l hl0 j33 _ _ e_x37) (va_cwS 1 hts (ga_S ww_296 ww_297 ww_1 ww_298) rfl rfl rfl (by decide +kernel) ⟨by decide, by decide⟩) (pcx_pre hN hX hZ hS hA) rfl rfl hl.1 rfl (lv_room (Nat.le_of_ble_eq_true rfl)) d_K_recover_151 ⟨Nat.le_of_ble_eq_true rfl, Nat.le_of_ble_eq_true rfl⟩) hS (fun q _ h => hFc q h) hFc (fun q _ h => hFc q h) (fun E ce q9 u t H1 locs ht hvm hpx hBX hz hk hS hce hcv hcl => ?_) (fun u t H1 locs _ _ hp _ _ _ _ => hp.elim)
              obtain rfl := hBX
              have hk : ∀ q : Nat, q < _ → H1[q]? = _ := fun q h => hk q h (fun z => Nat.lt_irrefl _ (Nat.lt_of_lt_of_le h z))
              have hP := xt_P hP hk
              exact vx_out (fun x h => (hout x h).elim) hlocks hce hcv hcl (fun t9 ht9 ha9 => ⟨_, rfl, ⟨rfl, by rw [ht9]; exact hP, va_K.moved ha9 hK, hD⟩, hS.F ht9⟩) hS.2.2 (Nat.le_of_ble_eq_true rfl) (Nat.le_of_ble_eq_true rfl)
            refine va_csv (va_runS (As := [.int j33]) (rest := []) ⟨hx, hb, hml, hown, hts⟩ (k_K_needArgument_ok l j33 n39 e_x37) (va_cwS 1 hts (ga_S ww_296 ww_297 ww_1 ww_298) rfl rfl rfl (by decide +kernel) ⟨by decide, by decide⟩) (pcs_pre hN) rfl rfl hl.1 rfl (lv_room (Nat.le_of_ble_eq_true rfl)) d_K_recover_151 ⟨Nat.zero_le _, Nat.zero_le _⟩).run (fun _ => ?_)
            refine lv_aload_n hx hb d_K_recover_154 rfl (lv_at hl 1 rfl) ?_
            refine lv_iload_n hx hb d_K_recover_155 rfl (lv_at hl 2 rfl) ?_
            refine lv_lload hx hb d_K_recover_156 (lv_at hl 0 rfl) ?_
            refine lv_lconst (v := 0) hx hb d_K_recover_158 (by decide) ?_
            obtain ⟨⟨r41, g40⟩, e_g40, hF⟩ := Option.bind_eq_some_iff.mp hF
            have hFc := va_free (wc := wK A cc g0) hD hS hA [0, 1, 2, 3, 4, 5, 6, 7, 8, 9] rfl
            refine va_calll (va_runV (As := [.int a0, .long r32, .long 0]) (rest := []) ⟨hx, hb, hml, hown, hts⟩ (k_K_fill l D A cc g0 a0 r32 0 _ (r41, g40) e_g40) (cwV 3 hts (ga_V ww_316 ww_318 wp_4 ww_1 ww_319) rfl rfl rfl (by decide +kernel) ⟨by decide, by decide⟩) (pw_pre (q0 := 0) (ci := 2) hP hK hD hN rfl rfl) rfl rfl hl.1 rfl (lv_room (Nat.le_of_ble_eq_true rfl)) d_K_recover_159 ⟨Nat.zero_le _, Nat.zero_le _⟩) hS (fun q _ h => hFc q h) hFc (fun r9 u9 t H locs ht hvm hp hB hz1 hk1 hS => ?_)
            obtain ⟨rfl, rfl⟩ := Prod.mk.inj hp.symm
            obtain ⟨hP, hD⟩ := bw_back hB ht hFc
            cases hF
          clear hF
          have hF := q35
          refine lv_if_eq hx hb d_K_recover_143 (tgt := 150) (by decide) (fun h9 => ?_) (fun h9 => ?_)
          · have hF := (if_pos h9).symm.trans hF
            refine lv_iconst (v := 0) hx hb d_K_recover_150 (by decide) ?_
            obtain rfl := Option.some.inj hF
            exact k34 _ _ ls hP hD hS (lv_sub hl [0, 4, 5] rfl)
          · have hF := (if_neg h9).symm.trans hF
            refine lv_iconst (v := 1) hx hb d_K_recover_146 (by decide) ?_
            refine lv_goto hx hb d_K_recover_147 (tgt := 151) (by decide) ?_
            obtain rfl := Option.some.inj hF
            exact k34 _ _ ls hP hD hS (lv_sub hl [0, 4, 5] rfl)
        clear hF
        have hF := q23
        refine lv_if_eq hx hb d_K_recover_87 (tgt := 94) (by decide) (fun h9 => ?_) (fun h9 => ?_)
        · have hF := (if_pos h9).symm.trans hF
          refine lv_iconst (v := 0) hx hb d_K_recover_94 (by decide) ?_
          obtain rfl := Option.some.inj hF
          exact k22 _ _ ls hP hD hS (lv_sub hl [0, 1, 2, 3, 4, 5] rfl)
        · have hF := (if_neg h9).symm.trans hF
          refine lv_iconst (v := 1) hx hb d_K_recover_90 (by decide) ?_
          refine lv_goto hx hb d_K_recover_91 (tgt := 95) (by decide) ?_
          obtain rfl := Option.some.inj hF
          exact k22 _ _ ls hP hD hS (lv_sub hl [0, 1, 2, 3, 4, 5] rfl)
      clear hF
      have hF := q18
      refine lv_icmp_ne hx hb d_K_recover_70 (tgt := 77) (by decide) (fun h9 => ?_) (fun h9 => ?_)
      · have hF := (if_neg h9).symm.trans hF
        refine lv_iconst (v := 0) hx hb d_K_recover_77 (by decide) ?_
        obtain rfl := Option.some.inj hF
        exact k17 _ _ ls hP hD hS (lv_sub hl [1, 2, 3, 4, 5] rfl)
      · have hF := (if_pos h9).symm.trans hF
        refine lv_iconst (v := 1) hx hb d_K_recover_73 (by decide) ?_
        refine lv_goto hx hb d_K_recover_74 (tgt := 78) (by decide) ?_
        obtain rfl := Option.some.inj hF
        exact k17 _ _ ls hP hD hS (lv_sub hl [1, 2, 3, 4, 5] rfl)
    clear hF
    have hF := q14
    refine lv_if_ne hx hb d_K_recover_45 (tgt := 54) (by decide) (fun h9 => ?_) (fun h9 => ?_)
    · have hF := (if_neg h9).symm.trans hF
      refine lv_iload hx hb d_K_recover_54 (lv_at hl 3 rfl) ?_
      refine lv_i2l (v := Int32.toInt64 a2) hx hb d_K_recover_56 rfl ?_
      refine lv_ldc2 (v := 1073729077) hx hb hown (hw _ ww_146) d_K_recover_57 ?_
      refine lv_ladd hx hb d_K_recover_60 ?_
      obtain rfl := Option.some.inj hF
      exact k13 _ _ ls hP hD hS (lv_sub hl [0, 1, 2, 3, 4, 5] rfl)
    · have hF := (if_pos h9).symm.trans hF
      refine lv_iload hx hb d_K_recover_48 (lv_at hl 3 rfl) ?_
      refine lv_i2l (v := Int32.toInt64 a2) hx hb d_K_recover_50 rfl ?_
      refine lv_goto hx hb d_K_recover_51 (tgt := 61) (by decide) ?_
      obtain rfl := Option.some.inj hF
      exact k13 _ _ ls hP hD hS (lv_sub hl [0, 1, 2, 3, 4, 5] rfl)
  clear hF
  have hF := q7
  refine lv_if_eq hx hb d_K_recover_10 (tgt := 37) (by decide) (fun h9 => ?_) (fun h9 => ?_)
  · have hF := (if_pos h9).symm.trans hF
    refine lv_iconst (v := 0) hx hb d_K_recover_37 (by decide) ?_
    obtain rfl := Option.some.inj hF
    exact k6 _ _ ls hP hD hS (lv_sub hl [0, 1, 2, 3, 4, 5] rfl)
  · have hF := (if_neg h9).symm.trans hF
    refine lv_iload hx hb d_K_recover_13 (lv_at hl 4 rfl) ?_
    refine lv_i2l (v := Int32.toInt64 a3) hx hb d_K_recover_15 rfl ?_
    obtain ⟨r43, e_r43, hF⟩ := Option.bind_eq_some_iff.mp hF
    refine vp_callSi (va_runS (As := [.long (Int32.toInt64 a3)]) (rest := []) ⟨hx, hb, hml, hown, hts⟩ (k_S_isUnit l (Int32.toInt64 a3) r43 e_r43) (va_cwS 1 hts (ga_S ww_293 ww_294 ww_9 ww_295) rfl rfl rfl (by decide +kernel) ⟨by decide, by decide⟩) (pcs_pre hN) rfl rfl hl.1 rfl (lv_room (Nat.le_of_ble_eq_true rfl)) d_K_recover_16 ⟨Nat.zero_le _, Nat.zero_le _⟩).run (fun z9 hz9 => ?_)
    obtain rfl : r43 = z9 := hz9.symm
    refine lv_if_eq hx hb d_K_recover_19 (tgt := 37) (by decide) (fun h9 => ?_) (fun h9 => ?_)
    · have hF := (if_pos h9).symm.trans hF
      refine lv_iconst (v := 0) hx hb d_K_recover_37 (by decide) ?_
      obtain rfl := Option.some.inj hF
      exact k6 _ _ ls hP hD hS (lv_sub hl [0, 1, 2, 3, 4, 5] rfl)
    · have hF := (if_neg h9).symm.trans hF
      refine lv_iload hx hb d_K_recover_22 (lv_at hl 5 rfl) ?_
      refine lv_if_lt hx hb d_K_recover_24 (tgt := 37) (by decide) (fun h9 => ?_) (fun h9 => ?_)
      · have hF := (if_pos h9).symm.trans hF
        refine lv_iconst (v := 0) hx hb d_K_recover_37 (by decide) ?_
        obtain rfl := Option.some.inj hF
        exact k6 _ _ ls hP hD hS (lv_sub hl [0, 1, 2, 3, 4, 5] rfl)
      · have hF := (if_neg h9).symm.trans hF
        refine lv_iload hx hb d_K_recover_27 (lv_at hl 5 rfl) ?_
        refine lv_iconst (v := 3) hx hb d_K_recover_29 (by decide) ?_
        refine lv_icmp_gt hx hb d_K_recover_30 (tgt := 37) (by decide) (fun h9 => ?_) (fun h9 => ?_)
        · have hF := (if_pos h9).symm.trans hF
          refine lv_iconst (v := 0) hx hb d_K_recover_37 (by decide) ?_
          obtain rfl := Option.some.inj hF
          exact k6 _ _ ls hP hD hS (lv_sub hl [0, 1, 2, 3, 4, 5] rfl)
        · have hF := (if_neg h9).symm.trans hF
          refine lv_iconst (v := 1) hx hb d_K_recover_33 (by decide) ?_
          refine lv_goto hx hb d_K_recover_34 (tgt := 38) (by decide) ?_
          obtain rfl := Option.some.inj hF
          exact k6 _ _ ls hP hD hS (lv_sub hl [0, 1, 2, 3, 4, 5] rfl)
def f_K_prove (g0 : sK) (a0 : Int32) (a1 : Int64) (a2 : Int64) : Option (Except (String × sK) (Int64 × sK)) := Option.bind (f_K_needSlot a0) (fun x1 => match x1 with | .error E9 => some (.error (E9, g0)) | .ok _ => (Option.bind (f_K_secretOf g0 a0) (fun x4 => match x4 with | .error E9 => some (.error E9) | .ok (r6, g7) => (if a0 < 0 ∨ 6 ≤ Int32.toNatClampNeg a0 then none else (Option.bind (f_K_evenScalar r6 (g7.1 (Int32.toNatClampNeg a0))) (fun r9 => if a0 < 0 ∨ 6 ≤ Int32.toNatClampNeg a0 then none else (Option.bind (f_C_xOf (g7.1 (Int32.toNatClampNeg a0))) (fun r11 => Option.bind (f_K_mix a2 23) (fun r12 => Option.bind (some (r9 ^^^ ((Int64.toUInt64 r12 >>> ((Int32.toInt64 34).toUInt64 &&& Int64.toUInt64 63)).toInt64))) (fun v13 => Option.bind (f_K_mix v13 r11) (fun r14 => Option.bind (f_K_mix r14 a1) (fun r15 => Option.bind (some (((Int64.toUInt64 r15 >>> ((Int32.toInt64 33).toUInt64 &&& Int64.toUInt64 63)).toInt64) - ((Int64.toUInt64 r15 >>> ((Int32.toInt64 33).toUInt64 &&& Int64.toUInt64 63)).toInt64) / 1073729077 * 1073729077)) (fun v16 => if (lg_cmp v16 0) = 0 then (some (.error ("java/lang/UnsupportedOperationException", g7))) else (Option.bind (f_C_multiple v16 4411025356) (fun r17 => Option.bind (f_C_xOf r17) (fun r18 => Option.bind (f_K_challenge r18 r11 a1) (fun r19 => Option.bind (f_K_evenScalar v16 r17) (fun r20 => some (.ok ((r18 * 4294967296) + ((r20 + (r19 * r9)) - (r20 + (r19 * r9)) / 1073729077 * 1073729077), g7))))))))))))))))))))
abbrev rm_K_prove : Room := { frames := 4, cells := 0, slots := 0, locals := 120 }
abbrev rx_K_prove : Room := { frames := 7, cells := 1, slots := 6, locals := 120 }
set_option maxHeartbeats 4000000 in
set_option maxRecDepth 100000 in
theorem k_K_prove_ok (l : Launch) (D : va_G) (A : Nat → Nat) (cc : Nat → ClassId) (g0 : sK) (a0 : Int32) (a1 : Int64) (a2 : Int64) (sz : Nat) (res : (Int64 × sK)) (hF : f_K_prove g0 a0 a1 a2 = some (.ok res)) : Met l y_K_prove (Cond.code y_K_prove b_K_prove 20 (some .long) :: wa) rm_K_prove (pw D (wK A cc g0) (kK cc) [.ref (A 0), .int a0, .long a1, .long a2] sz) (va_Ql (fun r u => (r, u) = res) (bw D (wK A cc) (kK cc) (va_A (wK A cc g0) sz)) (va_A (wK A cc g0) sz)) 0 0 (va_A (wK A cc g0) sz) := by
  refine Met.ofW (cc := b_K_prove) (maxL := 20) (ret := (some .long)) (by decide) rfl ?_
  intro p e s m args below meth c s₁ B hml hv
  obtain ⟨rfl, hsz, hP, hK, hD0, hN⟩ := hv
  subst hsz
  have hD := hD0.self (sz := s.heap.size)
  generalize hAe : va_A (wK A cc g0) s.heap.size = AA at hD ⊢
  have hx := B.exec
  have hb := B.bytes
  have hr := B.returns
  have hts := atoms_spec (ws := Cond.code y_K_prove b_K_prove 20 (some .long) :: wa) B.pre
  have hw : ∀ w ∈ wa, w.before _ s = true := fun w h => hts w (List.mem_cons_of_mem _ h)
  have hown : s.vm.findClass R_K = some m.cls := findClass_of_methodNamed B.named
  have hlocks := B.notSynchronized
  have hA : ∀ q : Nat, s.heap.size ≤ q → AA q := fun q h => by rw [← hAe]; exact Or.inr h
  have hS : va_S AA s.heap s.heap [] := va_S.rf
  have hl := lv_entry ([.ref (A 0), .int a0, .long a1, .long a2]) (n := 20) (Nat.le_of_ble_eq_true rfl)
  rw [lg_entry_eq]
  generalize (lg_sl ([.ref (A 0), .int a0, .long a1, .long a2]) ++ List.replicate (20 - (lg_sl ([.ref (A 0), .int a0, .long a1, .long a2])).length) Slot.unset).toArray = ls at hl ⊢
  have hl : lv_has ls 20 [(0, .ref (A 0)), (1, .int a0), (2, .long a1), (4, .long a2)] := hl
  unfold f_K_prove at hF
  refine lv_iload_n hx hb d_K_prove_0 rfl (lv_at hl 1 rfl) ?_
  obtain ⟨x1, e_x1, hF⟩ := Option.bind_eq_some_iff.mp hF
  rcases x1 with E2 | n3
  · cases hF
  refine va_csv (va_runS (As := [.int a0]) (rest := []) ⟨hx, hb, hml, hown, hts⟩ (k_K_needSlot_ok l a0 n3 e_x1) (va_cwS 1 hts (ga_S ww_225 ww_226 ww_1 ww_227) rfl rfl rfl (by decide +kernel) ⟨by decide, by decide⟩) (pcs_pre hN) rfl rfl hl.1 rfl (lv_room (Nat.le_of_ble_eq_true rfl)) d_K_prove_1 ⟨Nat.zero_le _, Nat.zero_le _⟩).run (fun _ => ?_)
  refine lv_aload_n hx hb d_K_prove_4 rfl (lv_at hl 0 rfl) ?_
  refine lv_iload_n hx hb d_K_prove_5 rfl (lv_at hl 1 rfl) ?_
  obtain ⟨x4, e_x4, hF⟩ := Option.bind_eq_some_iff.mp hF
  rcases x4 with ⟨E5, hE5⟩ | ⟨r6, g7⟩
  · cases hF
  have hFc := va_free (wc := wK A cc g0) hD hS hA [0, 1, 2, 3, 4, 5, 6, 7, 8, 9] rfl
  refine va_calll (va_runV (As := [.int a0]) (rest := []) ⟨hx, hb, hml, hown, hts⟩ (k_K_secretOf_ok l D A cc g0 a0 _ (r6, g7) e_x4) (cwV 1 hts (ga_V ww_394 ww_396 wp_6 ww_1 ww_397) rfl rfl rfl (by decide +kernel) ⟨by decide, by decide⟩) (pw_pre (q0 := 0) (ci := 2) hP hK hD hN rfl rfl) rfl rfl hl.1 rfl (lv_room (Nat.le_of_ble_eq_true rfl)) d_K_prove_6 ⟨Nat.zero_le _, Nat.zero_le _⟩) hS (fun q _ h => hFc q h) hFc (fun r9 u9 t H locs ht hvm hp hB hz1 hk1 hS => ?_)
  obtain ⟨rfl, rfl⟩ := Prod.mk.inj hp.symm
  obtain ⟨hP, hD⟩ := bw_back hB ht hFc
  refine lv_aload_n hx hb d_K_prove_9 rfl (lv_at hl 0 rfl) ?_
  refine va_get (D := D) (ci := 2) (v := .ref (A 1)) (C := R_K) (T := T_K) (N := 5) hx hb hts in_K hown hK hP 0 rfl rfl 0 (by decide) (hw _ ww_62) (fun _ h9 => h9) rfl d_K_prove_10 ?_
  refine lv_iload_n hx hb d_K_prove_13 rfl (lv_at hl 1 rfl) ?_
  by_cases h8 : a0 < 0 ∨ 6 ≤ Int32.toNatClampNeg a0
  · have h0 := (if_pos h8).symm.trans hF; cases h0
  have hF := (if_neg h8).symm.trans hF
  refine va_lald hx hb hK hP 1 0 rfl rfl h8 d_K_prove_14 ?_
  obtain ⟨r9, e_r9, hF⟩ := Option.bind_eq_some_iff.mp hF
  refine vp_callSl (va_runS (As := [.long r6, .long (g7.1 (Int32.toNatClampNeg a0))]) (rest := []) ⟨hx, hb, hml, hown, hts⟩ (k_K_evenScalar l r6 (g7.1 (Int32.toNatClampNeg a0)) r9 e_r9) (va_cwS 2 hts (ga_S ww_463 ww_464 ww_1 ww_465) rfl rfl rfl (by decide +kernel) ⟨by decide, by decide⟩) (pcs_pre hN) rfl rfl hl.1 rfl (lv_room (Nat.le_of_ble_eq_true rfl)) d_K_prove_15 ⟨Nat.zero_le _, Nat.zero_le _⟩).run (fun z9 hz9 => ?_)
  obtain rfl : r9 = z9 := hz9.symm
  refine lv_lstore hx hb d_K_prove_18 hl (by decide) (lv' := [(6, .long r9), (0, .ref (A 0)), (1, .int a0), (2, .long a1), (4, .long a2)]) rfl (fun ls hl => ?_)
  refine lv_aload_n hx hb d_K_prove_20 rfl (lv_at hl 1 rfl) ?_
  refine va_get (D := D) (ci := 2) (v := .ref (A 1)) (C := R_K) (T := T_K) (N := 5) hx hb hts in_K hown hK hP 0 rfl rfl 0 (by decide) (hw _ ww_62) (fun _ h9 => h9) rfl d_K_prove_21 ?_
  refine lv_iload_n hx hb d_K_prove_24 rfl (lv_at hl 2 rfl) ?_
  by_cases h10 : a0 < 0 ∨ 6 ≤ Int32.toNatClampNeg a0
  · have h0 := (if_pos h10).symm.trans hF; cases h0
  have hF := (if_neg h10).symm.trans hF
  refine va_lald hx hb hK hP 1 0 rfl rfl h10 d_K_prove_25 ?_
  obtain ⟨r11, e_r11, hF⟩ := Option.bind_eq_some_iff.mp hF
  refine vp_callSl (va_runS (As := [.long (g7.1 (Int32.toNatClampNeg a0))]) (rest := []) ⟨hx, hb, hml, hown, hts⟩ (k_C_xOf l (g7.1 (Int32.toNatClampNeg a0)) r11 e_r11) (va_cwS 1 hts (ga_S ww_417 ww_104 ww_11 ww_105) rfl rfl rfl (by decide +kernel) ⟨by decide, by decide⟩) (pcs_pre hN) rfl rfl hl.1 rfl (lv_room (Nat.le_of_ble_eq_true rfl)) d_K_prove_26 ⟨Nat.zero_le _, Nat.zero_le _⟩).run (fun z9 hz9 => ?_)
  obtain rfl : r11 = z9 := hz9.symm
  refine lv_lstore hx hb d_K_prove_29 hl (by decide) (lv' := [(8, .long r11), (6, .long r9), (0, .ref (A 0)), (1, .int a0), (2, .long a1), (4, .long a2)]) rfl (fun ls hl => ?_)
  refine lv_lload hx hb d_K_prove_31 (lv_at hl 1 rfl) ?_
  refine lv_lload hx hb d_K_prove_33 (lv_at hl 5 rfl) ?_
  refine lv_ldc2 (v := 23) hx hb hown (hw _ ww_466) d_K_prove_35 ?_
  obtain ⟨r12, e_r12, hF⟩ := Option.bind_eq_some_iff.mp hF
  refine vp_callSl (va_runS (As := [.long a2, .long 23]) (rest := [.long r9]) ⟨hx, hb, hml, hown, hts⟩ (k_K_mix l a2 23 r12 e_r12) (va_cwS 2 hts (ga_S ww_145 ww_133 ww_1 ww_134) rfl rfl rfl (by decide +kernel) ⟨by decide, by decide⟩) (pcs_pre hN) rfl rfl hl.1 rfl (lv_room (Nat.le_of_ble_eq_true rfl)) d_K_prove_38 ⟨Nat.zero_le _, Nat.zero_le _⟩).run (fun z9 hz9 => ?_)
  obtain rfl : r12 = z9 := hz9.symm
  refine lv_bipush (v := 34) hx hb d_K_prove_41 (by decide) ?_
  refine lv_lushr (v := (Int64.toUInt64 r12 >>> ((Int32.toInt64 34).toUInt64 &&& Int64.toUInt64 63)).toInt64) hx hb d_K_prove_43 rfl ?_
  refine lv_lxor hx hb d_K_prove_44 ?_
  obtain ⟨v13, e_v13, hF⟩ := Option.bind_eq_some_iff.mp hF
  refine nm_l (Option.some.inj e_v13) ?_
  refine lv_lstore hx hb d_K_prove_45 hl (by decide) (lv' := [(10, .long v13), (8, .long r11), (6, .long r9), (0, .ref (A 0)), (1, .int a0), (2, .long a1), (4, .long a2)]) rfl (fun ls hl => ?_)
  refine lv_lload hx hb d_K_prove_47 (lv_at hl 0 rfl) ?_
  refine lv_lload hx hb d_K_prove_49 (lv_at hl 1 rfl) ?_
  obtain ⟨r14, e_r14, hF⟩ := Option.bind_eq_some_iff.mp hF
  refine vp_callSl (va_runS (As := [.long v13, .long r11]) (rest := []) ⟨hx, hb, hml, hown, hts⟩ (k_K_mix l v13 r11 r14 e_r14) (va_cwS 2 hts (ga_S ww_145 ww_133 ww_1 ww_134) rfl rfl rfl (by decide +kernel) ⟨by decide, by decide⟩) (pcs_pre hN) rfl rfl hl.1 rfl (lv_room (Nat.le_of_ble_eq_true rfl)) d_K_prove_51 ⟨Nat.zero_le _, Nat.zero_le _⟩).run (fun z9 hz9 => ?_)
  obtain rfl : r14 = z9 := hz9.symm
  refine lv_lload_n hx hb d_K_prove_54 rfl (lv_at hl 5 rfl) ?_
  obtain ⟨r15, e_r15, hF⟩ := Option.bind_eq_some_iff.mp hF
  refine vp_callSl (va_runS (As := [.long r14, .long a1]) (rest := []) ⟨hx, hb, hml, hown, hts⟩ (k_K_mix l r14 a1 r15 e_r15) (va_cwS 2 hts (ga_S ww_145 ww_133 ww_1 ww_134) rfl rfl rfl (by decide +kernel) ⟨by decide, by decide⟩) (pcs_pre hN) rfl rfl hl.1 rfl (lv_room (Nat.le_of_ble_eq_true rfl)) d_K_prove_55 ⟨Nat.zero_le _, Nat.zero_le _⟩).run (fun z9 hz9 => ?_)
  obtain rfl : r15 = z9 := hz9.symm
  refine lv_bipush (v := 33) hx hb d_K_prove_58 (by decide) ?_
  refine lv_lushr (v := (Int64.toUInt64 r15 >>> ((Int32.toInt64 33).toUInt64 &&& Int64.toUInt64 63)).toInt64) hx hb d_K_prove_60 rfl ?_
  refine lv_ldc2 (v := 1073729077) hx hb hown (hw _ ww_146) d_K_prove_61 ?_
  refine lv_lrem hx hb d_K_prove_64 (by decide) ?_
  obtain ⟨v16, e_v16, hF⟩ := Option.bind_eq_some_iff.mp hF
  refine nm_l (Option.some.inj e_v16) ?_
  refine lv_lstore hx hb d_K_prove_65 hl (by decide) (lv' := [(12, .long v16), (10, .long v13), (8, .long r11), (6, .long r9), (0, .ref (A 0)), (1, .int a0), (2, .long a1), (4, .long a2)]) rfl (fun ls hl => ?_)
  refine lv_lload hx hb d_K_prove_67 (lv_at hl 0 rfl) ?_
  refine lv_lconst (v := 0) hx hb d_K_prove_69 (by decide) ?_
  refine W.lcmp hx hb d_K_prove_70 ?_
  refine lv_if_ne hx hb d_K_prove_71 (tgt := 82) (by decide) (fun h9 => ?_) (fun h9 => ?_)
  · have hF := (if_neg h9).symm.trans hF
    refine lv_lload hx hb d_K_prove_82 (lv_at hl 0 rfl) ?_
    refine lv_ldc2 (v := 4411025356) hx hb hown (hw _ ww_314) d_K_prove_84 ?_
    obtain ⟨r17, e_r17, hF⟩ := Option.bind_eq_some_iff.mp hF
    refine vp_callSl (va_runS (As := [.long v16, .long 4411025356]) (rest := []) ⟨hx, hb, hml, hown, hts⟩ (k_C_multiple l v16 4411025356 r17 e_r17) (va_cwS 2 hts (ga_S ww_315 ww_152 ww_11 ww_153) rfl rfl rfl (by decide +kernel) ⟨by decide, by decide⟩) (pcs_pre hN) rfl rfl hl.1 rfl (lv_room (Nat.le_of_ble_eq_true rfl)) d_K_prove_87 ⟨Nat.zero_le _, Nat.zero_le _⟩).run (fun z9 hz9 => ?_)
    obtain rfl : r17 = z9 := hz9.symm
    refine lv_lstore hx hb d_K_prove_90 hl (by decide) (lv' := [(14, .long r17), (12, .long v16), (10, .long v13), (8, .long r11), (6, .long r9), (0, .ref (A 0)), (1, .int a0), (2, .long a1), (4, .long a2)]) rfl (fun ls hl => ?_)
    refine lv_lload hx hb d_K_prove_92 (lv_at hl 0 rfl) ?_
    obtain ⟨r18, e_r18, hF⟩ := Option.bind_eq_some_iff.mp hF
    refine vp_callSl (va_runS (As := [.long r17]) (rest := []) ⟨hx, hb, hml, hown, hts⟩ (k_C_xOf l r17 r18 e_r18) (va_cwS 1 hts (ga_S ww_417 ww_104 ww_11 ww_105) rfl rfl rfl (by decide +kernel) ⟨by decide, by decide⟩) (pcs_pre hN) rfl rfl hl.1 rfl (lv_room (Nat.le_of_ble_eq_true rfl)) d_K_prove_94 ⟨Nat.zero_le _, Nat.zero_le _⟩).run (fun z9 hz9 => ?_)
    obtain rfl : r18 = z9 := hz9.symm
    refine lv_lstore hx hb d_K_prove_97 hl (by decide) (lv' := [(16, .long r18), (14, .long r17), (12, .long v16), (10, .long v13), (8, .long r11), (6, .long r9), (0, .ref (A 0)), (1, .int a0), (2, .long a1), (4, .long a2)]) rfl (fun ls hl => ?_)
    refine lv_lload hx hb d_K_prove_99 (lv_at hl 0 rfl) ?_
    refine lv_lload hx hb d_K_prove_101 (lv_at hl 4 rfl) ?_
    refine lv_lload_n hx hb d_K_prove_103 rfl (lv_at hl 8 rfl) ?_
    obtain ⟨r19, e_r19, hF⟩ := Option.bind_eq_some_iff.mp hF
    refine vp_callSl (va_runS (As := [.long r18, .long r11, .long a1]) (rest := []) ⟨hx, hb, hml, hown, hts⟩ (k_K_challenge l r18 r11 a1 r19 e_r19) (va_cwS 3 hts (ga_S ww_467 ww_141 ww_1 ww_142) rfl rfl rfl (by decide +kernel) ⟨by decide, by decide⟩) (pcs_pre hN) rfl rfl hl.1 rfl (lv_room (Nat.le_of_ble_eq_true rfl)) d_K_prove_104 ⟨Nat.zero_le _, Nat.zero_le _⟩).run (fun z9 hz9 => ?_)
    obtain rfl : r19 = z9 := hz9.symm
    refine lv_lstore hx hb d_K_prove_107 hl (by decide) (lv' := [(18, .long r19), (16, .long r18), (14, .long r17), (12, .long v16), (10, .long v13), (8, .long r11), (6, .long r9), (0, .ref (A 0)), (1, .int a0), (2, .long a1), (4, .long a2)]) rfl (fun ls hl => ?_)
    refine lv_lload hx hb d_K_prove_109 (lv_at hl 1 rfl) ?_
    refine lv_ldc2 (v := 4294967296) hx hb hown (hw _ ww_143) d_K_prove_111 ?_
    refine lv_lmul hx hb d_K_prove_114 ?_
    refine lv_lload hx hb d_K_prove_115 (lv_at hl 3 rfl) ?_
    refine lv_lload hx hb d_K_prove_117 (lv_at hl 2 rfl) ?_
    obtain ⟨r20, e_r20, hF⟩ := Option.bind_eq_some_iff.mp hF
    refine vp_callSl (va_runS (As := [.long v16, .long r17]) (rest := [.long (r18 * 4294967296)]) ⟨hx, hb, hml, hown, hts⟩ (k_K_evenScalar l v16 r17 r20 e_r20) (va_cwS 2 hts (ga_S ww_463 ww_464 ww_1 ww_465) rfl rfl rfl (by decide +kernel) ⟨by decide, by decide⟩) (pcs_pre hN) rfl rfl hl.1 rfl (lv_room (Nat.le_of_ble_eq_true rfl)) d_K_prove_119 ⟨Nat.zero_le _, Nat.zero_le _⟩).run (fun z9 hz9 => ?_)
    obtain rfl : r20 = z9 := hz9.symm
    refine lv_lload hx hb d_K_prove_122 (lv_at hl 0 rfl) ?_
    refine lv_lload hx hb d_K_prove_124 (lv_at hl 6 rfl) ?_
    refine lv_lmul hx hb d_K_prove_126 ?_
    refine lv_ladd hx hb d_K_prove_127 ?_
    refine lv_ldc2 (v := 1073729077) hx hb hown (hw _ ww_146) d_K_prove_128 ?_
    refine lv_lrem hx hb d_K_prove_131 (by decide) ?_
    refine lv_ladd hx hb d_K_prove_132 ?_
    cases hF
    exact W.lret hx hb hr (fun t ht hW => ⟨⟨_, _, rfl, rfl, bw_end hP hK hD ht hW⟩, hS.F ht⟩) hS.2.2 d_K_prove_133
  · have hF := (if_pos h9).symm.trans hF
    cases hF
set_option maxHeartbeats 4000000 in
set_option maxRecDepth 100000 in
theorem k_K_prove_er (l : Launch) (hl0 : l.stackTraces = false) (D : va_G) (A : Nat → Nat) (cc : Nat → ClassId) (g0 : sK) (a0 : Int32) (a1 : Int64) (a2 : Int64) (sz : Nat) (E0 : String) (gE : sK) (hF : f_K_prove g0 a0 a1 a2 = some (.error (E0, gE))) : vx_Met l y_K_prove (Cond.code y_K_prove b_K_prove 20 (some .long) :: wa) rx_K_prove (pwx D (wK A cc g0) (kK cc) [.ref (A 0), .int a0, .long a1, .long a2] sz) (va_Ql (fun _ (_ : Unit) => False) (fun _ _ => True) (va_A (wK A cc g0) sz)) (vx_X (fun u => u = gE) (fun E u t => E = E0 ∧ bw D (wK A cc) (kK cc) (va_A (wK A cc g0) sz) u t) (va_A (wK A cc g0) sz)) 1 6 (va_A (wK A cc g0) sz) := by
  refine vx_ofW (cc := b_K_prove) (maxL := 20) (ret := (some .long)) (by decide) rfl ?_
  intro p e s m args below meth c s₁ B hml hout hv
  obtain ⟨⟨rfl, hsz, hP, hK, hD0, hN⟩, hX, hZ⟩ := hv
  subst hsz
  have hD := hD0.self (sz := s.heap.size)
  generalize hAe : va_A (wK A cc g0) s.heap.size = AA at hD hZ ⊢
  have hx := B.exec
  have hb := B.bytes
  have hr := B.returns
  have hts := atoms_spec (ws := Cond.code y_K_prove b_K_prove 20 (some .long) :: wa) B.pre
  have hw : ∀ w ∈ wa, w.before _ s = true := fun w h => hts w (List.mem_cons_of_mem _ h)
  have hown : s.vm.findClass R_K = some m.cls := findClass_of_methodNamed B.named
  have hlocks := B.notSynchronized
  have hA : ∀ q : Nat, s.heap.size ≤ q → AA q := fun q h => by rw [← hAe]; exact Or.inr h
  have hS : va_S AA s.heap s.heap [] := va_S.rf
  have hl := lv_entry ([.ref (A 0), .int a0, .long a1, .long a2]) (n := 20) (Nat.le_of_ble_eq_true rfl)
  rw [lg_entry_eq]
  generalize (lg_sl ([.ref (A 0), .int a0, .long a1, .long a2]) ++ List.replicate (20 - (lg_sl ([.ref (A 0), .int a0, .long a1, .long a2])).length) Slot.unset).toArray = ls at hl ⊢
  have hl : lv_has ls 20 [(0, .ref (A 0)), (1, .int a0), (2, .long a1), (4, .long a2)] := hl
  unfold f_K_prove at hF
  refine lv_iload_n hx hb d_K_prove_0 rfl (lv_at hl 1 rfl) ?_
  obtain ⟨x1, e_x1, hF⟩ := Option.bind_eq_some_iff.mp hF
  rcases x1 with E2 | n3
  · cases hF
    have hFc : ∀ q, fr (Array.size _) q → AA q := fun q h => hA q (Nat.le_trans hS.1 h)
    refine vx_callv (vx_runS (As := [.int a0]) (rest := []) ⟨hx, hb, hml, hown, hts⟩ (k_K_needSlot_er l hl0 a0 _ _ e_x1) (va_cwS 1 hts (ga_S ww_225 ww_226 ww_1 ww_227) rfl rfl rfl (by decide +kernel) ⟨by decide, by decide⟩) (pcx_pre hN hX hZ hS hA) rfl rfl hl.1 rfl (lv_room (Nat.le_of_ble_eq_true rfl)) d_K_prove_1 ⟨Nat.le_of_ble_eq_true rfl, Nat.le_of_ble_eq_true rfl⟩) hS (fun q _ h => hFc q h) hFc (fun q _ h => hFc q h) (fun E ce q9 u t H1 locs ht hvm hpx hBX hz hk hS hce hcv hcl => ?_) (fun u t H1 locs _ _ hp _ _ _ _ => hp.elim)
    obtain rfl := hBX
    have hk : ∀ q : Nat, q < _ → H1[q]? = _ := fun q h => hk q h (fun z => Nat.lt_irrefl _ (Nat.lt_of_lt_of_le h z))
    have hP := xt_P hP hk
    exact vx_out (fun x h => (hout x h).elim) hlocks hce hcv hcl (fun t9 ht9 ha9 => ⟨_, rfl, ⟨rfl, by rw [ht9]; exact hP, va_K.moved ha9 hK, hD⟩, hS.F ht9⟩) hS.2.2 (Nat.le_of_ble_eq_true rfl) (Nat.le_of_ble_eq_true rfl)
  refine va_csv (va_runS (As := [.int a0]) (rest := []) ⟨hx, hb, hml, hown, hts⟩ (k_K_needSlot_ok l a0 n3 e_x1) (va_cwS 1 hts (ga_S ww_225 ww_226 ww_1 ww_227) rfl rfl rfl (by decide +kernel) ⟨by decide, by decide⟩) (pcs_pre hN) rfl rfl hl.1 rfl (lv_room (Nat.le_of_ble_eq_true rfl)) d_K_prove_1 ⟨Nat.zero_le _, Nat.zero_le _⟩).run (fun _ => ?_)
  refine lv_aload_n hx hb d_K_prove_4 rfl (lv_at hl 0 rfl) ?_
  refine lv_iload_n hx hb d_K_prove_5 rfl (lv_at hl 1 rfl) ?_
  obtain ⟨x4, e_x4, hF⟩ := Option.bind_eq_some_iff.mp hF
  rcases x4 with ⟨E5, hE5⟩ | ⟨r6, g7⟩
  · have hFc := va_free (wc := wK A cc g0) hD hS hA [0, 1, 2, 3, 4, 5, 6, 7, 8, 9] rfl
    cases hF
    refine vx_calll (vx_runV (As := [.int a0]) (rest := []) ⟨hx, hb, hml, hown, hts⟩ (k_K_secretOf_er l hl0 D A cc g0 a0 _ _ _ e_x4) (cwV 1 hts (ga_V ww_394 ww_396 wp_6 ww_1 ww_397) rfl rfl rfl (by decide +kernel) ⟨by decide, by decide⟩) (pwx_pre (q0 := 0) (ci := 2) hP hK hD hN hX hZ hS hFc rfl rfl) rfl rfl hl.1 rfl (lv_room (Nat.le_of_ble_eq_true rfl)) d_K_prove_6 ⟨Nat.le_of_ble_eq_true rfl, Nat.le_of_ble_eq_true rfl⟩) hS (fun q _ h => hFc q h) hFc (fun q _ h => hFc q h) (fun E ce q9 u t H1 locs ht hvm hpx hBX hz hk hS hce hcv hcl => ?_) (fun r9 u t H1 locs _ _ hp _ _ _ _ => hp.elim)
    obtain rfl := hpx
    obtain ⟨rfl, hB⟩ := hBX
    obtain ⟨hP, hD⟩ := bw_back hB ht hFc
    exact vx_out (fun x h => (hout x h).elim) hlocks hce hcv hcl (fun t9 ht9 ha9 => ⟨_, rfl, ⟨rfl, by rw [ht9]; exact hP, va_K.moved ha9 hK, hD⟩, hS.F ht9⟩) hS.2.2 (Nat.le_of_ble_eq_true rfl) (Nat.le_of_ble_eq_true rfl)
  have hFc := va_free (wc := wK A cc g0) hD hS hA [0, 1, 2, 3, 4, 5, 6, 7, 8, 9] rfl
  refine va_calll (va_runV (As := [.int a0]) (rest := []) ⟨hx, hb, hml, hown, hts⟩ (k_K_secretOf_ok l D A cc g0 a0 _ (r6, g7) e_x4) (cwV 1 hts (ga_V ww_394 ww_396 wp_6 ww_1 ww_397) rfl rfl rfl (by decide +kernel) ⟨by decide, by decide⟩) (pw_pre (q0 := 0) (ci := 2) hP hK hD hN rfl rfl) rfl rfl hl.1 rfl (lv_room (Nat.le_of_ble_eq_true rfl)) d_K_prove_6 ⟨Nat.zero_le _, Nat.zero_le _⟩) hS (fun q _ h => hFc q h) hFc (fun r9 u9 t H locs ht hvm hp hB hz1 hk1 hS => ?_)
  obtain ⟨rfl, rfl⟩ := Prod.mk.inj hp.symm
  obtain ⟨hP, hD⟩ := bw_back hB ht hFc
  refine lv_aload_n hx hb d_K_prove_9 rfl (lv_at hl 0 rfl) ?_
  refine va_get (D := D) (ci := 2) (v := .ref (A 1)) (C := R_K) (T := T_K) (N := 5) hx hb hts in_K hown hK hP 0 rfl rfl 0 (by decide) (hw _ ww_62) (fun _ h9 => h9) rfl d_K_prove_10 ?_
  refine lv_iload_n hx hb d_K_prove_13 rfl (lv_at hl 1 rfl) ?_
  by_cases h8 : a0 < 0 ∨ 6 ≤ Int32.toNatClampNeg a0
  · have h0 := (if_pos h8).symm.trans hF; cases h0
  have hF := (if_neg h8).symm.trans hF
  refine va_lald hx hb hK hP 1 0 rfl rfl h8 d_K_prove_14 ?_
  obtain ⟨r9, e_r9, hF⟩ := Option.bind_eq_some_iff.mp hF
  refine vp_callSl (va_runS (As := [.long r6, .long (g7.1 (Int32.toNatClampNeg a0))]) (rest := []) ⟨hx, hb, hml, hown, hts⟩ (k_K_evenScalar l r6 (g7.1 (Int32.toNatClampNeg a0)) r9 e_r9) (va_cwS 2 hts (ga_S ww_463 ww_464 ww_1 ww_465) rfl rfl rfl (by decide +kernel) ⟨by decide, by decide⟩) (pcs_pre hN) rfl rfl hl.1 rfl (lv_room (Nat.le_of_ble_eq_true rfl)) d_K_prove_15 ⟨Nat.zero_le _, Nat.zero_le _⟩).run (fun z9 hz9 => ?_)
  obtain rfl : r9 = z9 := hz9.symm
  refine lv_lstore hx hb d_K_prove_18 hl (by decide) (lv' := [(6, .long r9), (0, .ref (A 0)), (1, .int a0), (2, .long a1), (4, .long a2)]) rfl (fun ls hl => ?_)
  refine lv_aload_n hx hb d_K_prove_20 rfl (lv_at hl 1 rfl) ?_
  refine va_get (D := D) (ci := 2) (v := .ref (A 1)) (C := R_K) (T := T_K) (N := 5) hx hb hts in_K hown hK hP 0 rfl rfl 0 (by decide) (hw _ ww_62) (fun _ h9 => h9) rfl d_K_prove_21 ?_
  refine lv_iload_n hx hb d_K_prove_24 rfl (lv_at hl 2 rfl) ?_
  by_cases h10 : a0 < 0 ∨ 6 ≤ Int32.toNatClampNeg a0
  · have h0 := (if_pos h10).symm.trans hF; cases h0
  have hF := (if_neg h10).symm.trans hF
  refine va_lald hx hb hK hP 1 0 rfl rfl h10 d_K_prove_25 ?_
  obtain ⟨r11, e_r11, hF⟩ := Option.bind_eq_some_iff.mp hF
  refine vp_callSl (va_runS (As := [.long (g7.1 (Int32.toNatClampNeg a0))]) (rest := []) ⟨hx, hb, hml, hown, hts⟩ (k_C_xOf l (g7.1 (Int32.toNatClampNeg a0)) r11 e_r11) (va_cwS 1 hts (ga_S ww_417 ww_104 ww_11 ww_105) rfl rfl rfl (by decide +kernel) ⟨by decide, by decide⟩) (pcs_pre hN) rfl rfl hl.1 rfl (lv_room (Nat.le_of_ble_eq_true rfl)) d_K_prove_26 ⟨Nat.zero_le _, Nat.zero_le _⟩).run (fun z9 hz9 => ?_)
  obtain rfl : r11 = z9 := hz9.symm
  refine lv_lstore hx hb d_K_prove_29 hl (by decide) (lv' := [(8, .long r11), (6, .long r9), (0, .ref (A 0)), (1, .int a0), (2, .long a1), (4, .long a2)]) rfl (fun ls hl => ?_)
  refine lv_lload hx hb d_K_prove_31 (lv_at hl 1 rfl) ?_
  refine lv_lload hx hb d_K_prove_33 (lv_at hl 5 rfl) ?_
  refine lv_ldc2 (v := 23) hx hb hown (hw _ ww_466) d_K_prove_35 ?_
  obtain ⟨r12, e_r12, hF⟩ := Option.bind_eq_some_iff.mp hF
  refine vp_callSl (va_runS (As := [.long a2, .long 23]) (rest := [.long r9]) ⟨hx, hb, hml, hown, hts⟩ (k_K_mix l a2 23 r12 e_r12) (va_cwS 2 hts (ga_S ww_145 ww_133 ww_1 ww_134) rfl rfl rfl (by decide +kernel) ⟨by decide, by decide⟩) (pcs_pre hN) rfl rfl hl.1 rfl (lv_room (Nat.le_of_ble_eq_true rfl)) d_K_prove_38 ⟨Nat.zero_le _, Nat.zero_le _⟩).run (fun z9 hz9 => ?_)
  obtain rfl : r12 = z9 := hz9.symm
  refine lv_bipush (v := 34) hx hb d_K_prove_41 (by decide) ?_
  refine lv_lushr (v := (Int64.toUInt64 r12 >>> ((Int32.toInt64 34).toUInt64 &&& Int64.toUInt64 63)).toInt64) hx hb d_K_prove_43 rfl ?_
  refine lv_lxor hx hb d_K_prove_44 ?_
  obtain ⟨v13, e_v13, hF⟩ := Option.bind_eq_some_iff.mp hF
  refine nm_l (Option.some.inj e_v13) ?_
  refine lv_lstore hx hb d_K_prove_45 hl (by decide) (lv' := [(10, .long v13), (8, .long r11), (6, .long r9), (0, .ref (A 0)), (1, .int a0), (2, .long a1), (4, .long a2)]) rfl (fun ls hl => ?_)
  refine lv_lload hx hb d_K_prove_47 (lv_at hl 0 rfl) ?_
  refine lv_lload hx hb d_K_prove_49 (lv_at hl 1 rfl) ?_
  obtain ⟨r14, e_r14, hF⟩ := Option.bind_eq_some_iff.mp hF
  refine vp_callSl (va_runS (As := [.long v13, .long r11]) (rest := []) ⟨hx, hb, hml, hown, hts⟩ (k_K_mix l v13 r11 r14 e_r14) (va_cwS 2 hts (ga_S ww_145 ww_133 ww_1 ww_134) rfl rfl rfl (by decide +kernel) ⟨by decide, by decide⟩) (pcs_pre hN) rfl rfl hl.1 rfl (lv_room (Nat.le_of_ble_eq_true rfl)) d_K_prove_51 ⟨Nat.zero_le _, Nat.zero_le _⟩).run (fun z9 hz9 => ?_)
  obtain rfl : r14 = z9 := hz9.symm
  refine lv_lload_n hx hb d_K_prove_54 rfl (lv_at hl 5 rfl) ?_
  obtain ⟨r15, e_r15, hF⟩ := Option.bind_eq_some_iff.mp hF
  refine vp_callSl (va_runS (As := [.long r14, .long a1]) (rest := []) ⟨hx, hb, hml, hown, hts⟩ (k_K_mix l r14 a1 r15 e_r15) (va_cwS 2 hts (ga_S ww_145 ww_133 ww_1 ww_134) rfl rfl rfl (by decide +kernel) ⟨by decide, by decide⟩) (pcs_pre hN) rfl rfl hl.1 rfl (lv_room (Nat.le_of_ble_eq_true rfl)) d_K_prove_55 ⟨Nat.zero_le _, Nat.zero_le _⟩).run (fun z9 hz9 => ?_)
  obtain rfl : r15 = z9 := hz9.symm
  refine lv_bipush (v := 33) hx hb d_K_prove_58 (by decide) ?_
  refine lv_lushr (v := (Int64.toUInt64 r15 >>> ((Int32.toInt64 33).toUInt64 &&& Int64.toUInt64 63)).toInt64) hx hb d_K_prove_60 rfl ?_
  refine lv_ldc2 (v := 1073729077) hx hb hown (hw _ ww_146) d_K_prove_61 ?_
  refine lv_lrem hx hb d_K_prove_64 (by decide) ?_
  obtain ⟨v16, e_v16, hF⟩ := Option.bind_eq_some_iff.mp hF
  refine nm_l (Option.some.inj e_v16) ?_
  refine lv_lstore hx hb d_K_prove_65 hl (by decide) (lv' := [(12, .long v16), (10, .long v13), (8, .long r11), (6, .long r9), (0, .ref (A 0)), (1, .int a0), (2, .long a1), (4, .long a2)]) rfl (fun ls hl => ?_)
  refine lv_lload hx hb d_K_prove_67 (lv_at hl 0 rfl) ?_
  refine lv_lconst (v := 0) hx hb d_K_prove_69 (by decide) ?_
  refine W.lcmp hx hb d_K_prove_70 ?_
  refine lv_if_ne hx hb d_K_prove_71 (tgt := 82) (by decide) (fun h9 => ?_) (fun h9 => ?_)
  · have hF := (if_neg h9).symm.trans hF
    refine lv_lload hx hb d_K_prove_82 (lv_at hl 0 rfl) ?_
    refine lv_ldc2 (v := 4411025356) hx hb hown (hw _ ww_314) d_K_prove_84 ?_
    obtain ⟨r17, e_r17, hF⟩ := Option.bind_eq_some_iff.mp hF
    refine vp_callSl (va_runS (As := [.long v16, .long 4411025356]) (rest := []) ⟨hx, hb, hml, hown, hts⟩ (k_C_multiple l v16 4411025356 r17 e_r17) (va_cwS 2 hts (ga_S ww_315 ww_152 ww_11 ww_153) rfl rfl rfl (by decide +kernel) ⟨by decide, by decide⟩) (pcs_pre hN) rfl rfl hl.1 rfl (lv_room (Nat.le_of_ble_eq_true rfl)) d_K_prove_87 ⟨Nat.zero_le _, Nat.zero_le _⟩).run (fun z9 hz9 => ?_)
    obtain rfl : r17 = z9 := hz9.symm
    refine lv_lstore hx hb d_K_prove_90 hl (by decide) (lv' := [(14, .long r17), (12, .long v16), (10, .long v13), (8, .long r11), (6, .long r9), (0, .ref (A 0)), (1, .int a0), (2, .long a1), (4, .long a2)]) rfl (fun ls hl => ?_)
    refine lv_lload hx hb d_K_prove_92 (lv_at hl 0 rfl) ?_
    obtain ⟨r18, e_r18, hF⟩ := Option.bind_eq_some_iff.mp hF
    refine vp_callSl (va_runS (As := [.long r17]) (rest := []) ⟨hx, hb, hml, hown, hts⟩ (k_C_xOf l r17 r18 e_r18) (va_cwS 1 hts (ga_S ww_417 ww_104 ww_11 ww_105) rfl rfl rfl (by decide +kernel) ⟨by decide, by decide⟩) (pcs_pre hN) rfl rfl hl.1 rfl (lv_room (Nat.le_of_ble_eq_true rfl)) d_K_prove_94 ⟨Nat.zero_le _, Nat.zero_le _⟩).run (fun z9 hz9 => ?_)
    obtain rfl : r18 = z9 := hz9.symm
    refine lv_lstore hx hb d_K_prove_97 hl (by decide) (lv' := [(16, .long r18), (14, .long r17), (12, .long v16), (10, .long v13), (8, .long r11), (6, .long r9), (0, .ref (A 0)), (1, .int a0), (2, .long a1), (4, .long a2)]) rfl (fun ls hl => ?_)
    refine lv_lload hx hb d_K_prove_99 (lv_at hl 0 rfl) ?_
    refine lv_lload hx hb d_K_prove_101 (lv_at hl 4 rfl) ?_
    refine lv_lload_n hx hb d_K_prove_103 rfl (lv_at hl 8 rfl) ?_
    obtain ⟨r19, e_r19, hF⟩ := Option.bind_eq_some_iff.mp hF
    refine vp_callSl (va_runS (As := [.long r18, .long r11, .long a1]) (rest := []) ⟨hx, hb, hml, hown, hts⟩ (k_K_challenge l r18 r11 a1 r19 e_r19) (va_cwS 3 hts (ga_S ww_467 ww_141 ww_1 ww_142) rfl rfl rfl (by decide +kernel) ⟨by decide, by decide⟩) (pcs_pre hN) rfl rfl hl.1 rfl (lv_room (Nat.le_of_ble_eq_true rfl)) d_K_prove_104 ⟨Nat.zero_le _, Nat.zero_le _⟩).run (fun z9 hz9 => ?_)
    obtain rfl : r19 = z9 := hz9.symm
    refine lv_lstore hx hb d_K_prove_107 hl (by decide) (lv' := [(18, .long r19), (16, .long r18), (14, .long r17), (12, .long v16), (10, .long v13), (8, .long r11), (6, .long r9), (0, .ref (A 0)), (1, .int a0), (2, .long a1), (4, .long a2)]) rfl (fun ls hl => ?_)
    refine lv_lload hx hb d_K_prove_109 (lv_at hl 1 rfl) ?_
    refine lv_ldc2 (v := 4294967296) hx hb hown (hw _ ww_143) d_K_prove_111 ?_
    refine lv_lmul hx hb d_K_prove_114 ?_
    refine lv_lload hx hb d_K_prove_115 (lv_at hl 3 rfl) ?_
    refine lv_lload hx hb d_K_prove_117 (lv_at hl 2 rfl) ?_
    obtain ⟨r20, e_r20, hF⟩ := Option.bind_eq_some_iff.mp hF
    refine vp_callSl (va_runS (As := [.long v16, .long r17]) (rest := [.long (r18 * 4294967296)]) ⟨hx, hb, hml, hown, hts⟩ (k_K_evenScalar l v16 r17 r20 e_r20) (va_cwS 2 hts (ga_S ww_463 ww_464 ww_1 ww_465) rfl rfl rfl (by decide +kernel) ⟨by decide, by decide⟩) (pcs_pre hN) rfl rfl hl.1 rfl (lv_room (Nat.le_of_ble_eq_true rfl)) d_K_prove_119 ⟨Nat.zero_le _, Nat.zero_le _⟩).run (fun z9 hz9 => ?_)
    obtain rfl : r20 = z9 := hz9.symm
    refine lv_lload hx hb d_K_prove_122 (lv_at hl 0 rfl) ?_
    refine lv_lload hx hb d_K_prove_124 (lv_at hl 6 rfl) ?_
    refine lv_lmul hx hb d_K_prove_126 ?_
    refine lv_ladd hx hb d_K_prove_127 ?_
    refine lv_ldc2 (v := 1073729077) hx hb hown (hw _ ww_146) d_K_prove_128 ?_
    refine lv_lrem hx hb d_K_prove_131 (by decide) ?_
    refine lv_ladd hx hb d_K_prove_132 ?_
    cases hF
  · have hF := (if_pos h9).symm.trans hF
    cases hF
    exact vx_throw0 (cls := "java/lang/UnsupportedOperationException") (names := ["java/lang/RuntimeException", "java/lang/Exception"]) (ik := 114) (ic := 116) (A := AA) hx hb hl0 hown (by decide) (by decide) (hw _ ww_427) (hw _ ww_15) (xt_hat hw hX xg_UnsupportedOperationException xn_UnsupportedOperationException) xo_UnsupportedOperationException hZ.1 hZ.2 hS (hl.1.trans hml.symm) d_K_prove_74 d_K_prove_77 d_K_prove_78 d_K_prove_81 (fun x h => (hout x h).elim) (Nat.le_of_ble_eq_true rfl) (Nat.le_of_ble_eq_true rfl) (Nat.le_of_ble_eq_true rfl) (Nat.le_of_ble_eq_true rfl) hlocks (fun t ha hz hk => ⟨_, rfl, ⟨rfl, xt_bw hP hK hD hk ha⟩, xt_F hS hz hk⟩) hS.2.2 (Nat.le_of_ble_eq_true rfl) (Nat.le_of_ble_eq_true rfl)
def f_K_holds (g0 : sK) (a0 : Int32) (a1 : Int64) (a2 : Int32) (a3 : Int32) : Option (Except (String × sK) (Int32 × sK)) := Option.bind (f_K_needSlot a0) (fun x1 => match x1 with | .error E9 => some (.error (E9, g0)) | .ok _ => (Option.bind (f_K_pointOf g0 a0) (fun x4 => match x4 with | .error E9 => some (.error E9) | .ok (r6, g7) => (Option.bind (f_C_evenOf r6) (fun r8 => Option.bind (f_F_has (Int32.toInt64 a2)) (fun r9 => if r9 = 0 then (some (.ok (0, g7))) else (Option.bind (f_S_has (Int32.toInt64 a3)) (fun r10 => if r10 = 0 then (some (.ok (0, g7))) else (Option.bind (f_C_xOf r8) (fun r11 => Option.bind (f_K_challenge (Int32.toInt64 a2) r11 a1) (fun r12 => Option.bind (f_C_sumOfMultiples (Int32.toInt64 a3) 4411025356 (1073729077 - r12) r8) (fun r13 => Option.bind (if (lg_cmp r13 0) = 0 then (some (0) : Option (Int32)) else (Option.bind (f_C_isOdd r13) (fun r19 => if r19 = 0 then (Option.bind (f_C_xOf r13) (fun r20 => if (lg_cmp r20 (Int32.toInt64 a2)) = 0 then (some (1)) else (some (0)))) else (some (0))))) (fun j14 => if j14 = 0 ∨ j14 = 1 then some (.ok (j14, g7)) else none)))))))))))))
abbrev rm_K_holds : Room := { frames := 5, cells := 0, slots := 0, locals := 147 }
abbrev rx_K_holds : Room := { frames := 7, cells := 1, slots := 6, locals := 147 }
set_option maxHeartbeats 4000000 in
set_option maxRecDepth 100000 in
theorem k_K_holds_ok (l : Launch) (D : va_G) (A : Nat → Nat) (cc : Nat → ClassId) (g0 : sK) (a0 : Int32) (a1 : Int64) (a2 : Int32) (a3 : Int32) (sz : Nat) (res : (Int32 × sK)) (hF : f_K_holds g0 a0 a1 a2 a3 = some (.ok res)) : Met l y_K_holds (Cond.code y_K_holds b_K_holds 12 (some .boolean) :: wa) rm_K_holds (pw D (wK A cc g0) (kK cc) [.ref (A 0), .int a0, .long a1, .int a2, .int a3] sz) (va_Qi (fun r u => (r, u) = res) (bw D (wK A cc) (kK cc) (va_A (wK A cc g0) sz)) (va_A (wK A cc g0) sz)) 0 0 (va_A (wK A cc g0) sz) := by
  refine Met.ofW (cc := b_K_holds) (maxL := 12) (ret := (some .boolean)) (by decide) rfl ?_
  intro p e s m args below meth c s₁ B hml hv
  obtain ⟨rfl, hsz, hP, hK, hD0, hN⟩ := hv
  subst hsz
  have hD := hD0.self (sz := s.heap.size)
  generalize hAe : va_A (wK A cc g0) s.heap.size = AA at hD ⊢
  have hx := B.exec
  have hb := B.bytes
  have hr := B.returns
  have hts := atoms_spec (ws := Cond.code y_K_holds b_K_holds 12 (some .boolean) :: wa) B.pre
  have hw : ∀ w ∈ wa, w.before _ s = true := fun w h => hts w (List.mem_cons_of_mem _ h)
  have hown : s.vm.findClass R_K = some m.cls := findClass_of_methodNamed B.named
  have hlocks := B.notSynchronized
  have hA : ∀ q : Nat, s.heap.size ≤ q → AA q := fun q h => by rw [← hAe]; exact Or.inr h
  have hS : va_S AA s.heap s.heap [] := va_S.rf
  have hl := lv_entry ([.ref (A 0), .int a0, .long a1, .int a2, .int a3]) (n := 12) (Nat.le_of_ble_eq_true rfl)
  rw [lg_entry_eq]
  generalize (lg_sl ([.ref (A 0), .int a0, .long a1, .int a2, .int a3]) ++ List.replicate (12 - (lg_sl ([.ref (A 0), .int a0, .long a1, .int a2, .int a3])).length) Slot.unset).toArray = ls at hl ⊢
  have hl : lv_has ls 12 [(0, .ref (A 0)), (1, .int a0), (2, .long a1), (4, .int a2), (5, .int a3)] := hl
  unfold f_K_holds at hF
  refine lv_iload_n hx hb d_K_holds_0 rfl (lv_at hl 1 rfl) ?_
  obtain ⟨x1, e_x1, hF⟩ := Option.bind_eq_some_iff.mp hF
  rcases x1 with E2 | n3
  · cases hF
  refine va_csv (va_runS (As := [.int a0]) (rest := []) ⟨hx, hb, hml, hown, hts⟩ (k_K_needSlot_ok l a0 n3 e_x1) (va_cwS 1 hts (ga_S ww_225 ww_226 ww_1 ww_227) rfl rfl rfl (by decide +kernel) ⟨by decide, by decide⟩) (pcs_pre hN) rfl rfl hl.1 rfl (lv_room (Nat.le_of_ble_eq_true rfl)) d_K_holds_1 ⟨Nat.zero_le _, Nat.zero_le _⟩).run (fun _ => ?_)
  refine lv_aload_n hx hb d_K_holds_4 rfl (lv_at hl 0 rfl) ?_
  refine lv_iload_n hx hb d_K_holds_5 rfl (lv_at hl 1 rfl) ?_
  obtain ⟨x4, e_x4, hF⟩ := Option.bind_eq_some_iff.mp hF
  rcases x4 with ⟨E5, hE5⟩ | ⟨r6, g7⟩
  · cases hF
  have hFc := va_free (wc := wK A cc g0) hD hS hA [0, 1, 2, 3, 4, 5, 6, 7, 8, 9] rfl
  refine va_calll (va_runV (As := [.int a0]) (rest := []) ⟨hx, hb, hml, hown, hts⟩ (k_K_pointOf_ok l D A cc g0 a0 _ (r6, g7) e_x4) (cwV 1 hts (ga_V ww_346 ww_348 wp_5 ww_1 ww_349) rfl rfl rfl (by decide +kernel) ⟨by decide, by decide⟩) (pw_pre (q0 := 0) (ci := 2) hP hK hD hN rfl rfl) rfl rfl hl.1 rfl (lv_room (Nat.le_of_ble_eq_true rfl)) d_K_holds_6 ⟨Nat.zero_le _, Nat.zero_le _⟩) hS (fun q _ h => hFc q h) hFc (fun r9 u9 t H locs ht hvm hp hB hz1 hk1 hS => ?_)
  obtain ⟨rfl, rfl⟩ := Prod.mk.inj hp.symm
  obtain ⟨hP, hD⟩ := bw_back hB ht hFc
  obtain ⟨r8, e_r8, hF⟩ := Option.bind_eq_some_iff.mp hF
  refine vp_callSl (va_runS (As := [.long r6]) (rest := []) ⟨hx, hb, hml, hown, hts⟩ (k_C_evenOf l r6 r8 e_r8) (va_cwS 1 hts (ga_S ww_475 ww_476 ww_11 ww_477) rfl rfl rfl (by decide +kernel) ⟨by decide, by decide⟩) (pcs_pre hN) rfl rfl hl.1 rfl (lv_room (Nat.le_of_ble_eq_true rfl)) d_K_holds_9 ⟨Nat.zero_le _, Nat.zero_le _⟩).run (fun z9 hz9 => ?_)
  obtain rfl : r8 = z9 := hz9.symm
  refine lv_lstore hx hb d_K_holds_12 hl (by decide) (lv' := [(6, .long r8), (0, .ref (A 0)), (1, .int a0), (2, .long a1), (4, .int a2), (5, .int a3)]) rfl (fun ls hl => ?_)
  refine lv_iload hx hb d_K_holds_14 (lv_at hl 4 rfl) ?_
  refine lv_i2l (v := Int32.toInt64 a2) hx hb d_K_holds_16 rfl ?_
  obtain ⟨r9, e_r9, hF⟩ := Option.bind_eq_some_iff.mp hF
  refine vp_callSi (va_runS (As := [.long (Int32.toInt64 a2)]) (rest := []) ⟨hx, hb, hml, hown, hts⟩ (k_F_has l (Int32.toInt64 a2) r9 e_r9) (va_cwS 1 hts (ga_S ww_478 ww_86 ww_12 ww_87) rfl rfl rfl (by decide +kernel) ⟨by decide, by decide⟩) (pcs_pre hN) rfl rfl hl.1 rfl (lv_room (Nat.le_of_ble_eq_true rfl)) d_K_holds_17 ⟨Nat.zero_le _, Nat.zero_le _⟩).run (fun z9 hz9 => ?_)
  obtain rfl : r9 = z9 := hz9.symm
  refine lv_if_eq hx hb d_K_holds_20 (tgt := 32) (by decide) (fun h9 => ?_) (fun h9 => ?_)
  · have hF := (if_pos h9).symm.trans hF
    refine lv_iconst (v := 0) hx hb d_K_holds_32 (by decide) ?_
    cases hF
    exact W.zret hx hb hr (by decide) (fun t ht hW => ⟨⟨_, _, rfl, rfl, bw_end hP hK hD ht hW⟩, hS.F ht⟩) hS.2.2 d_K_holds_33
  · have hF := (if_neg h9).symm.trans hF
    refine lv_iload hx hb d_K_holds_23 (lv_at hl 5 rfl) ?_
    refine lv_i2l (v := Int32.toInt64 a3) hx hb d_K_holds_25 rfl ?_
    obtain ⟨r10, e_r10, hF⟩ := Option.bind_eq_some_iff.mp hF
    refine vp_callSi (va_runS (As := [.long (Int32.toInt64 a3)]) (rest := []) ⟨hx, hb, hml, hown, hts⟩ (k_S_has l (Int32.toInt64 a3) r10 e_r10) (va_cwS 1 hts (ga_S ww_365 ww_126 ww_9 ww_127) rfl rfl rfl (by decide +kernel) ⟨by decide, by decide⟩) (pcs_pre hN) rfl rfl hl.1 rfl (lv_room (Nat.le_of_ble_eq_true rfl)) d_K_holds_26 ⟨Nat.zero_le _, Nat.zero_le _⟩).run (fun z9 hz9 => ?_)
    obtain rfl : r10 = z9 := hz9.symm
    refine lv_if_ne hx hb d_K_holds_29 (tgt := 34) (by decide) (fun h9 => ?_) (fun h9 => ?_)
    · have hF := (if_neg h9).symm.trans hF
      refine lv_iload hx hb d_K_holds_34 (lv_at hl 4 rfl) ?_
      refine lv_i2l (v := Int32.toInt64 a2) hx hb d_K_holds_36 rfl ?_
      refine lv_lload hx hb d_K_holds_37 (lv_at hl 0 rfl) ?_
      obtain ⟨r11, e_r11, hF⟩ := Option.bind_eq_some_iff.mp hF
      refine vp_callSl (va_runS (As := [.long r8]) (rest := [.long (Int32.toInt64 a2)]) ⟨hx, hb, hml, hown, hts⟩ (k_C_xOf l r8 r11 e_r11) (va_cwS 1 hts (ga_S ww_417 ww_104 ww_11 ww_105) rfl rfl rfl (by decide +kernel) ⟨by decide, by decide⟩) (pcs_pre hN) rfl rfl hl.1 rfl (lv_room (Nat.le_of_ble_eq_true rfl)) d_K_holds_39 ⟨Nat.zero_le _, Nat.zero_le _⟩).run (fun z9 hz9 => ?_)
      obtain rfl : r11 = z9 := hz9.symm
      refine lv_lload_n hx hb d_K_holds_42 rfl (lv_at hl 3 rfl) ?_
      obtain ⟨r12, e_r12, hF⟩ := Option.bind_eq_some_iff.mp hF
      refine vp_callSl (va_runS (As := [.long (Int32.toInt64 a2), .long r11, .long a1]) (rest := []) ⟨hx, hb, hml, hown, hts⟩ (k_K_challenge l (Int32.toInt64 a2) r11 a1 r12 e_r12) (va_cwS 3 hts (ga_S ww_467 ww_141 ww_1 ww_142) rfl rfl rfl (by decide +kernel) ⟨by decide, by decide⟩) (pcs_pre hN) rfl rfl hl.1 rfl (lv_room (Nat.le_of_ble_eq_true rfl)) d_K_holds_43 ⟨Nat.zero_le _, Nat.zero_le _⟩).run (fun z9 hz9 => ?_)
      obtain rfl : r12 = z9 := hz9.symm
      refine lv_lstore hx hb d_K_holds_46 hl (by decide) (lv' := [(8, .long r12), (6, .long r8), (0, .ref (A 0)), (1, .int a0), (2, .long a1), (4, .int a2), (5, .int a3)]) rfl (fun ls hl => ?_)
      refine lv_iload hx hb d_K_holds_48 (lv_at hl 6 rfl) ?_
      refine lv_i2l (v := Int32.toInt64 a3) hx hb d_K_holds_50 rfl ?_
      refine lv_ldc2 (v := 4411025356) hx hb hown (hw _ ww_314) d_K_holds_51 ?_
      refine lv_ldc2 (v := 1073729077) hx hb hown (hw _ ww_146) d_K_holds_54 ?_
      refine lv_lload hx hb d_K_holds_57 (lv_at hl 0 rfl) ?_
      refine lv_lsub hx hb d_K_holds_59 ?_
      refine lv_lload hx hb d_K_holds_60 (lv_at hl 1 rfl) ?_
      obtain ⟨r13, e_r13, hF⟩ := Option.bind_eq_some_iff.mp hF
      refine vp_callSl (va_runS (As := [.long (Int32.toInt64 a3), .long 4411025356, .long (1073729077 - r12), .long r8]) (rest := []) ⟨hx, hb, hml, hown, hts⟩ (k_C_sumOfMultiples l (Int32.toInt64 a3) 4411025356 (1073729077 - r12) r8 r13 e_r13) (va_cwS 4 hts (ga_S ww_384 ww_149 ww_11 ww_150) rfl rfl rfl (by decide +kernel) ⟨by decide, by decide⟩) (pcs_pre hN) rfl rfl hl.1 rfl (lv_room (Nat.le_of_ble_eq_true rfl)) d_K_holds_62 ⟨Nat.zero_le _, Nat.zero_le _⟩).run (fun z9 hz9 => ?_)
      obtain rfl : r13 = z9 := hz9.symm
      refine lv_lstore hx hb d_K_holds_65 hl (by decide) (lv' := [(10, .long r13), (8, .long r12), (6, .long r8), (0, .ref (A 0)), (1, .int a0), (2, .long a1), (4, .int a2), (5, .int a3)]) rfl (fun ls hl => ?_)
      refine lv_lload hx hb d_K_holds_67 (lv_at hl 0 rfl) ?_
      refine lv_lconst (v := 0) hx hb d_K_holds_69 (by decide) ?_
      refine W.lcmp hx hb d_K_holds_70 ?_
      obtain ⟨j14, q16, hF⟩ := Option.bind_eq_some_iff.mp hF
      have k15 : ∀ (H : Heap) (locs : List Loc) (ls : Array Slot), va_P D vwC (wK A cc g7) H → va_D AA (wK A cc g7) → va_S AA s.heap H locs → lv_has ls 12 [] → W p l e rm_K_holds s m ([Value.ref (A 0), Value.int a0, Value.long a1, Value.int a2, Value.int a3] : List Value).toArray below meth c H locs 0 0 (MQ below (va_Qi (fun r u => (r, u) = res) (bw D (wK A cc) (kK cc) AA) AA) ([Value.ref (A 0), Value.int a0, Value.long a1, Value.int a2, Value.int a3] : List Value).toArray s 0 0 AA) (F0 m 99 ls [.int j14]) := by
        intro H locs ls hP hD hS hl
        by_cases h18 : ¬ (j14 = 0 ∨ j14 = 1)
        · have h0 := (if_neg h18).symm.trans hF; cases h0
        have h18 := Classical.not_not.mp h18
        have hF := (if_pos h18).symm.trans hF
        cases hF
        exact W.zret hx hb hr (nz_b h18) (fun t ht hW => ⟨⟨_, _, rfl, rfl, bw_end hP hK hD ht hW⟩, hS.F ht⟩) hS.2.2 d_K_holds_99
      clear hF
      have hF := q16
      refine lv_if_eq hx hb d_K_holds_71 (tgt := 98) (by decide) (fun h9 => ?_) (fun h9 => ?_)
      · have hF := (if_pos h9).symm.trans hF
        refine lv_iconst (v := 0) hx hb d_K_holds_98 (by decide) ?_
        obtain rfl := Option.some.inj hF
        exact k15 _ _ ls hP hD hS (lv_sub hl [] rfl)
      · have hF := (if_neg h9).symm.trans hF
        refine lv_lload hx hb d_K_holds_74 (lv_at hl 0 rfl) ?_
        obtain ⟨r19, e_r19, hF⟩ := Option.bind_eq_some_iff.mp hF
        refine vp_callSi (va_runS (As := [.long r13]) (rest := []) ⟨hx, hb, hml, hown, hts⟩ (k_C_isOdd l r13 r19 e_r19) (va_cwS 1 hts (ga_S ww_425 ww_97 ww_11 ww_98) rfl rfl rfl (by decide +kernel) ⟨by decide, by decide⟩) (pcs_pre hN) rfl rfl hl.1 rfl (lv_room (Nat.le_of_ble_eq_true rfl)) d_K_holds_76 ⟨Nat.zero_le _, Nat.zero_le _⟩).run (fun z9 hz9 => ?_)
        obtain rfl : r19 = z9 := hz9.symm
        refine lv_if_ne hx hb d_K_holds_79 (tgt := 98) (by decide) (fun h9 => ?_) (fun h9 => ?_)
        · have hF := (if_neg h9).symm.trans hF
          refine lv_iconst (v := 0) hx hb d_K_holds_98 (by decide) ?_
          obtain rfl := Option.some.inj hF
          exact k15 _ _ ls hP hD hS (lv_sub hl [] rfl)
        · have hF := (if_pos h9).symm.trans hF
          refine lv_lload hx hb d_K_holds_82 (lv_at hl 0 rfl) ?_
          obtain ⟨r20, e_r20, hF⟩ := Option.bind_eq_some_iff.mp hF
          refine vp_callSl (va_runS (As := [.long r13]) (rest := []) ⟨hx, hb, hml, hown, hts⟩ (k_C_xOf l r13 r20 e_r20) (va_cwS 1 hts (ga_S ww_417 ww_104 ww_11 ww_105) rfl rfl rfl (by decide +kernel) ⟨by decide, by decide⟩) (pcs_pre hN) rfl rfl hl.1 rfl (lv_room (Nat.le_of_ble_eq_true rfl)) d_K_holds_84 ⟨Nat.zero_le _, Nat.zero_le _⟩).run (fun z9 hz9 => ?_)
          obtain rfl : r20 = z9 := hz9.symm
          refine lv_iload hx hb d_K_holds_87 (lv_at hl 6 rfl) ?_
          refine lv_i2l (v := Int32.toInt64 a2) hx hb d_K_holds_89 rfl ?_
          refine W.lcmp hx hb d_K_holds_90 ?_
          refine lv_if_ne hx hb d_K_holds_91 (tgt := 98) (by decide) (fun h9 => ?_) (fun h9 => ?_)
          · have hF := (if_neg h9).symm.trans hF
            refine lv_iconst (v := 0) hx hb d_K_holds_98 (by decide) ?_
            obtain rfl := Option.some.inj hF
            exact k15 _ _ ls hP hD hS (lv_sub hl [] rfl)
          · have hF := (if_pos h9).symm.trans hF
            refine lv_iconst (v := 1) hx hb d_K_holds_94 (by decide) ?_
            refine lv_goto hx hb d_K_holds_95 (tgt := 99) (by decide) ?_
            obtain rfl := Option.some.inj hF
            exact k15 _ _ ls hP hD hS (lv_sub hl [] rfl)
    · have hF := (if_pos h9).symm.trans hF
      refine lv_iconst (v := 0) hx hb d_K_holds_32 (by decide) ?_
      cases hF
      exact W.zret hx hb hr (by decide) (fun t ht hW => ⟨⟨_, _, rfl, rfl, bw_end hP hK hD ht hW⟩, hS.F ht⟩) hS.2.2 d_K_holds_33
set_option maxHeartbeats 4000000 in
set_option maxRecDepth 100000 in
theorem k_K_holds_er (l : Launch) (hl0 : l.stackTraces = false) (D : va_G) (A : Nat → Nat) (cc : Nat → ClassId) (g0 : sK) (a0 : Int32) (a1 : Int64) (a2 : Int32) (a3 : Int32) (sz : Nat) (E0 : String) (gE : sK) (hF : f_K_holds g0 a0 a1 a2 a3 = some (.error (E0, gE))) : vx_Met l y_K_holds (Cond.code y_K_holds b_K_holds 12 (some .boolean) :: wa) rx_K_holds (pwx D (wK A cc g0) (kK cc) [.ref (A 0), .int a0, .long a1, .int a2, .int a3] sz) (va_Qi (fun _ (_ : Unit) => False) (fun _ _ => True) (va_A (wK A cc g0) sz)) (vx_X (fun u => u = gE) (fun E u t => E = E0 ∧ bw D (wK A cc) (kK cc) (va_A (wK A cc g0) sz) u t) (va_A (wK A cc g0) sz)) 1 6 (va_A (wK A cc g0) sz) := by
  refine vx_ofW (cc := b_K_holds) (maxL := 12) (ret := (some .boolean)) (by decide) rfl ?_
  intro p e s m args below meth c s₁ B hml hout hv
  obtain ⟨⟨rfl, hsz, hP, hK, hD0, hN⟩, hX, hZ⟩ := hv
  subst hsz
  have hD := hD0.self (sz := s.heap.size)
  generalize hAe : va_A (wK A cc g0) s.heap.size = AA at hD hZ ⊢
  have hx := B.exec
  have hb := B.bytes
  have hr := B.returns
  have hts := atoms_spec (ws := Cond.code y_K_holds b_K_holds 12 (some .boolean) :: wa) B.pre
  have hw : ∀ w ∈ wa, w.before _ s = true := fun w h => hts w (List.mem_cons_of_mem _ h)
  have hown : s.vm.findClass R_K = some m.cls := findClass_of_methodNamed B.named
  have hlocks := B.notSynchronized
  have hA : ∀ q : Nat, s.heap.size ≤ q → AA q := fun q h => by rw [← hAe]; exact Or.inr h
  have hS : va_S AA s.heap s.heap [] := va_S.rf
  have hl := lv_entry ([.ref (A 0), .int a0, .long a1, .int a2, .int a3]) (n := 12) (Nat.le_of_ble_eq_true rfl)
  rw [lg_entry_eq]
  generalize (lg_sl ([.ref (A 0), .int a0, .long a1, .int a2, .int a3]) ++ List.replicate (12 - (lg_sl ([.ref (A 0), .int a0, .long a1, .int a2, .int a3])).length) Slot.unset).toArray = ls at hl ⊢
  have hl : lv_has ls 12 [(0, .ref (A 0)), (1, .int a0), (2, .long a1), (4, .int a2), (5, .int a3)] := hl
  unfold f_K_holds at hF
  refine lv_iload_n hx hb d_K_holds_0 rfl (lv_at hl 1 rfl) ?_
  obtain ⟨x1, e_x1, hF⟩ := Option.bind_eq_some_iff.mp hF
  rcases x1 with E2 | n3
  · cases hF
    have hFc : ∀ q, fr (Array.size _) q → AA q := fun q h => hA q (Nat.le_trans hS.1 h)
    refine vx_callv (vx_runS (As := [.int a0]) (rest := []) ⟨hx, hb, hml, hown, hts⟩ (k_K_needSlot_er l hl0 a0 _ _ e_x1) (va_cwS 1 hts (ga_S ww_225 ww_226 ww_1 ww_227) rfl rfl rfl (by decide +kernel) ⟨by decide, by decide⟩) (pcx_pre hN hX hZ hS hA) rfl rfl hl.1 rfl (lv_room (Nat.le_of_ble_eq_true rfl)) d_K_holds_1 ⟨Nat.le_of_ble_eq_true rfl, Nat.le_of_ble_eq_true rfl⟩) hS (fun q _ h => hFc q h) hFc (fun q _ h => hFc q h) (fun E ce q9 u t H1 locs ht hvm hpx hBX hz hk hS hce hcv hcl => ?_) (fun u t H1 locs _ _ hp _ _ _ _ => hp.elim)
    obtain rfl := hBX
    have hk : ∀ q : Nat, q < _ → H1[q]? = _ := fun q h => hk q h (fun z => Nat.lt_irrefl _ (Nat.lt_of_lt_of_le h z))
    have hP := xt_P hP hk
    exact vx_out (fun x h => (hout x h).elim) hlocks hce hcv hcl (fun t9 ht9 ha9 => ⟨_, rfl, ⟨rfl, by rw [ht9]; exact hP, va_K.moved ha9 hK, hD⟩, hS.F ht9⟩) hS.2.2 (Nat.le_of_ble_eq_true rfl) (Nat.le_of_ble_eq_true rfl)
  refine va_csv (va_runS (As := [.int a0]) (rest := []) ⟨hx, hb, hml, hown, hts⟩ (k_K_needSlot_ok l a0 n3 e_x1) (va_cwS 1 hts (ga_S ww_225 ww_226 ww_1 ww_227) rfl rfl rfl (by decide +kernel) ⟨by decide, by decide⟩) (pcs_pre hN) rfl rfl hl.1 rfl (lv_room (Nat.le_of_ble_eq_true rfl)) d_K_holds_1 ⟨Nat.zero_le _, Nat.zero_le _⟩).run (fun _ => ?_)
  refine lv_aload_n hx hb d_K_holds_4 rfl (lv_at hl 0 rfl) ?_
  refine lv_iload_n hx hb d_K_holds_5 rfl (lv_at hl 1 rfl) ?_
  obtain ⟨x4, e_x4, hF⟩ := Option.bind_eq_some_iff.mp hF
  rcases x4 with ⟨E5, hE5⟩ | ⟨r6, g7⟩
  · have hFc := va_free (wc := wK A cc g0) hD hS hA [0, 1, 2, 3, 4, 5, 6, 7, 8, 9] rfl
    cases hF
    refine vx_calll (vx_runV (As := [.int a0]) (rest := []) ⟨hx, hb, hml, hown, hts⟩ (k_K_pointOf_er l hl0 D A cc g0 a0 _ _ _ e_x4) (cwV 1 hts (ga_V ww_346 ww_348 wp_5 ww_1 ww_349) rfl rfl rfl (by decide +kernel) ⟨by decide, by decide⟩) (pwx_pre (q0 := 0) (ci := 2) hP hK hD hN hX hZ hS hFc rfl rfl) rfl rfl hl.1 rfl (lv_room (Nat.le_of_ble_eq_true rfl)) d_K_holds_6 ⟨Nat.le_of_ble_eq_true rfl, Nat.le_of_ble_eq_true rfl⟩) hS (fun q _ h => hFc q h) hFc (fun q _ h => hFc q h) (fun E ce q9 u t H1 locs ht hvm hpx hBX hz hk hS hce hcv hcl => ?_) (fun r9 u t H1 locs _ _ hp _ _ _ _ => hp.elim)
    obtain rfl := hpx
    obtain ⟨rfl, hB⟩ := hBX
    obtain ⟨hP, hD⟩ := bw_back hB ht hFc
    exact vx_out (fun x h => (hout x h).elim) hlocks hce hcv hcl (fun t9 ht9 ha9 => ⟨_, rfl, ⟨rfl, by rw [ht9]; exact hP, va_K.moved ha9 hK, hD⟩, hS.F ht9⟩) hS.2.2 (Nat.le_of_ble_eq_true rfl) (Nat.le_of_ble_eq_true rfl)
  have hFc := va_free (wc := wK A cc g0) hD hS hA [0, 1, 2, 3, 4, 5, 6, 7, 8, 9] rfl
  refine va_calll (va_runV (As := [.int a0]) (rest := []) ⟨hx, hb, hml, hown, hts⟩ (k_K_pointOf_ok l D A cc g0 a0 _ (r6, g7) e_x4) (cwV 1 hts (ga_V ww_346 ww_348 wp_5 ww_1 ww_349) rfl rfl rfl (by decide +kernel) ⟨by decide, by decide⟩) (pw_pre (q0 := 0) (ci := 2) hP hK hD hN rfl rfl) rfl rfl hl.1 rfl (lv_room (Nat.le_of_ble_eq_true rfl)) d_K_holds_6 ⟨Nat.zero_le _, Nat.zero_le _⟩) hS (fun q _ h => hFc q h) hFc (fun r9 u9 t H locs ht hvm hp hB hz1 hk1 hS => ?_)
  obtain ⟨rfl, rfl⟩ := Prod.mk.inj hp.symm
  obtain ⟨hP, hD⟩ := bw_back hB ht hFc
  obtain ⟨r8, e_r8, hF⟩ := Option.bind_eq_some_iff.mp hF
  refine vp_callSl (va_runS (As := [.long r6]) (rest := []) ⟨hx, hb, hml, hown, hts⟩ (k_C_evenOf l r6 r8 e_r8) (va_cwS 1 hts (ga_S ww_475 ww_476 ww_11 ww_477) rfl rfl rfl (by decide +kernel) ⟨by decide, by decide⟩) (pcs_pre hN) rfl rfl hl.1 rfl (lv_room (Nat.le_of_ble_eq_true rfl)) d_K_holds_9 ⟨Nat.zero_le _, Nat.zero_le _⟩).run (fun z9 hz9 => ?_)
  obtain rfl : r8 = z9 := hz9.symm
  refine lv_lstore hx hb d_K_holds_12 hl (by decide) (lv' := [(6, .long r8), (0, .ref (A 0)), (1, .int a0), (2, .long a1), (4, .int a2), (5, .int a3)]) rfl (fun ls hl => ?_)
  refine lv_iload hx hb d_K_holds_14 (lv_at hl 4 rfl) ?_
  refine lv_i2l (v := Int32.toInt64 a2) hx hb d_K_holds_16 rfl ?_
  obtain ⟨r9, e_r9, hF⟩ := Option.bind_eq_some_iff.mp hF
  refine vp_callSi (va_runS (As := [.long (Int32.toInt64 a2)]) (rest := []) ⟨hx, hb, hml, hown, hts⟩ (k_F_has l (Int32.toInt64 a2) r9 e_r9) (va_cwS 1 hts (ga_S ww_478 ww_86 ww_12 ww_87) rfl rfl rfl (by decide +kernel) ⟨by decide, by decide⟩) (pcs_pre hN) rfl rfl hl.1 rfl (lv_room (Nat.le_of_ble_eq_true rfl)) d_K_holds_17 ⟨Nat.zero_le _, Nat.zero_le _⟩).run (fun z9 hz9 => ?_)
  obtain rfl : r9 = z9 := hz9.symm
  refine lv_if_eq hx hb d_K_holds_20 (tgt := 32) (by decide) (fun h9 => ?_) (fun h9 => ?_)
  · have hF := (if_pos h9).symm.trans hF
    refine lv_iconst (v := 0) hx hb d_K_holds_32 (by decide) ?_
    cases hF
  · have hF := (if_neg h9).symm.trans hF
    refine lv_iload hx hb d_K_holds_23 (lv_at hl 5 rfl) ?_
    refine lv_i2l (v := Int32.toInt64 a3) hx hb d_K_holds_25 rfl ?_
    obtain ⟨r10, e_r10, hF⟩ := Option.bind_eq_some_iff.mp hF
    refine vp_callSi (va_runS (As := [.long (Int32.toInt64 a3)]) (rest := []) ⟨hx, hb, hml, hown, hts⟩ (k_S_has l (Int32.toInt64 a3) r10 e_r10) (va_cwS 1 hts (ga_S ww_365 ww_126 ww_9 ww_127) rfl rfl rfl (by decide +kernel) ⟨by decide, by decide⟩) (pcs_pre hN) rfl rfl hl.1 rfl (lv_room (Nat.le_of_ble_eq_true rfl)) d_K_holds_26 ⟨Nat.zero_le _, Nat.zero_le _⟩).run (fun z9 hz9 => ?_)
    obtain rfl : r10 = z9 := hz9.symm
    refine lv_if_ne hx hb d_K_holds_29 (tgt := 34) (by decide) (fun h9 => ?_) (fun h9 => ?_)
    · have hF := (if_neg h9).symm.trans hF
      refine lv_iload hx hb d_K_holds_34 (lv_at hl 4 rfl) ?_
      refine lv_i2l (v := Int32.toInt64 a2) hx hb d_K_holds_36 rfl ?_
      refine lv_lload hx hb d_K_holds_37 (lv_at hl 0 rfl) ?_
      obtain ⟨r11, e_r11, hF⟩ := Option.bind_eq_some_iff.mp hF
      refine vp_callSl (va_runS (As := [.long r8]) (rest := [.long (Int32.toInt64 a2)]) ⟨hx, hb, hml, hown, hts⟩ (k_C_xOf l r8 r11 e_r11) (va_cwS 1 hts (ga_S ww_417 ww_104 ww_11 ww_105) rfl rfl rfl (by decide +kernel) ⟨by decide, by decide⟩) (pcs_pre hN) rfl rfl hl.1 rfl (lv_room (Nat.le_of_ble_eq_true rfl)) d_K_holds_39 ⟨Nat.zero_le _, Nat.zero_le _⟩).run (fun z9 hz9 => ?_)
      obtain rfl : r11 = z9 := hz9.symm
      refine lv_lload_n hx hb d_K_holds_42 rfl (lv_at hl 3 rfl) ?_
      obtain ⟨r12, e_r12, hF⟩ := Option.bind_eq_some_iff.mp hF
      refine vp_callSl (va_runS (As := [.long (Int32.toInt64 a2), .long r11, .long a1]) (rest := []) ⟨hx, hb, hml, hown, hts⟩ (k_K_challenge l (Int32.toInt64 a2) r11 a1 r12 e_r12) (va_cwS 3 hts (ga_S ww_467 ww_141 ww_1 ww_142) rfl rfl rfl (by decide +kernel) ⟨by decide, by decide⟩) (pcs_pre hN) rfl rfl hl.1 rfl (lv_room (Nat.le_of_ble_eq_true rfl)) d_K_holds_43 ⟨Nat.zero_le _, Nat.zero_le _⟩).run (fun z9 hz9 => ?_)
      obtain rfl : r12 = z9 := hz9.symm
      refine lv_lstore hx hb d_K_holds_46 hl (by decide) (lv' := [(8, .long r12), (6, .long r8), (0, .ref (A 0)), (1, .int a0), (2, .long a1), (4, .int a2), (5, .int a3)]) rfl (fun ls hl => ?_)
      refine lv_iload hx hb d_K_holds_48 (lv_at hl 6 rfl) ?_
      refine lv_i2l (v := Int32.toInt64 a3) hx hb d_K_holds_50 rfl ?_
      refine lv_ldc2 (v := 4411025356) hx hb hown (hw _ ww_314) d_K_holds_51 ?_
      refine lv_ldc2 (v := 1073729077) hx hb hown (hw _ ww_146) d_K_holds_54 ?_
      refine lv_lload hx hb d_K_holds_57 (lv_at hl 0 rfl) ?_
      refine lv_lsub hx hb d_K_holds_59 ?_
      refine lv_lload hx hb d_K_holds_60 (lv_at hl 1 rfl) ?_
      obtain ⟨r13, e_r13, hF⟩ := Option.bind_eq_some_iff.mp hF
      refine vp_callSl (va_runS (As := [.long (Int32.toInt64 a3), .long 4411025356, .long (1073729077 - r12), .long r8]) (rest := []) ⟨hx, hb, hml, hown, hts⟩ (k_C_sumOfMultiples l (Int32.toInt64 a3) 4411025356 (1073729077 - r12) r8 r13 e_r13) (va_cwS 4 hts (ga_S ww_384 ww_149 ww_11 ww_150) rfl rfl rfl (by decide +kernel) ⟨by decide, by decide⟩) (pcs_pre hN) rfl rfl hl.1 rfl (lv_room (Nat.le_of_ble_eq_true rfl)) d_K_holds_62 ⟨Nat.zero_le _, Nat.zero_le _⟩).run (fun z9 hz9 => ?_)
      obtain rfl : r13 = z9 := hz9.symm
      refine lv_lstore hx hb d_K_holds_65 hl (by decide) (lv' := [(10, .long r13), (8, .long r12), (6, .long r8), (0, .ref (A 0)), (1, .int a0), (2, .long a1), (4, .int a2), (5, .int a3)]) rfl (fun ls hl => ?_)
      refine lv_lload hx hb d_K_holds_67 (lv_at hl 0 rfl) ?_
      refine lv_lconst (v := 0) hx hb d_K_holds_69 (by decide) ?_
      refine W.lcmp hx hb d_K_holds_70 ?_
      obtain ⟨j14, q16, hF⟩ := Option.bind_eq_some_iff.mp hF
      have k15 : ∀ (H : Heap) (locs : List Loc) (ls : Array Slot), va_P D vwC (wK A cc g7) H → va_D AA (wK A cc g7) → va_S AA s.heap H locs → lv_has ls 12 [] → W p l e rx_K_holds s m ([Value.ref (A 0), Value.int a0, Value.long a1, Value.int a2, Value.int a3] : List Value).toArray below meth c H locs 0 0 (vx_MQ below (va_Qi (fun _ (_ : Unit) => False) (fun _ _ => True) AA) (vx_X (fun u => u = gE) (fun E u t => E = E0 ∧ bw D (wK A cc) (kK cc) AA u t) AA) ([Value.ref (A 0), Value.int a0, Value.long a1, Value.int a2, Value.int a3] : List Value).toArray s 1 6 AA) (F0 m 99 ls [.int j14]) := by
        intro H locs ls hP hD hS hl
        by_cases h18 : ¬ (j14 = 0 ∨ j14 = 1)
        · have h0 := (if_neg h18).symm.trans hF; cases h0
        have h18 := Classical.not_not.mp h18
        have hF := (if_pos h18).symm.trans hF
        cases hF
      clear hF
      have hF := q16
      refine lv_if_eq hx hb d_K_holds_71 (tgt := 98) (by decide) (fun h9 => ?_) (fun h9 => ?_)
      · have hF := (if_pos h9).symm.trans hF
        refine lv_iconst (v := 0) hx hb d_K_holds_98 (by decide) ?_
        obtain rfl := Option.some.inj hF
        exact k15 _ _ ls hP hD hS (lv_sub hl [] rfl)
      · have hF := (if_neg h9).symm.trans hF
        refine lv_lload hx hb d_K_holds_74 (lv_at hl 0 rfl) ?_
        obtain ⟨r19, e_r19, hF⟩ := Option.bind_eq_some_iff.mp hF
        refine vp_callSi (va_runS (As := [.long r13]) (rest := []) ⟨hx, hb, hml, hown, hts⟩ (k_C_isOdd l r13 r19 e_r19) (va_cwS 1 hts (ga_S ww_425 ww_97 ww_11 ww_98) rfl rfl rfl (by decide +kernel) ⟨by decide, by decide⟩) (pcs_pre hN) rfl rfl hl.1 rfl (lv_room (Nat.le_of_ble_eq_true rfl)) d_K_holds_76 ⟨Nat.zero_le _, Nat.zero_le _⟩).run (fun z9 hz9 => ?_)
        obtain rfl : r19 = z9 := hz9.symm
        refine lv_if_ne hx hb d_K_holds_79 (tgt := 98) (by decide) (fun h9 => ?_) (fun h9 => ?_)
        · have hF := (if_neg h9).symm.trans hF
          refine lv_iconst (v := 0) hx hb d_K_holds_98 (by decide) ?_
          obtain rfl := Option.some.inj hF
          exact k15 _ _ ls hP hD hS (lv_sub hl [] rfl)
        · have hF := (if_pos h9).symm.trans hF
          refine lv_lload hx hb d_K_holds_82 (lv_at hl 0 rfl) ?_
          obtain ⟨r20, e_r20, hF⟩ := Option.bind_eq_some_iff.mp hF
          refine vp_callSl (va_runS (As := [.long r13]) (rest := []) ⟨hx, hb, hml, hown, hts⟩ (k_C_xOf l r13 r20 e_r20) (va_cwS 1 hts (ga_S ww_417 ww_104 ww_11 ww_105) rfl rfl rfl (by decide +kernel) ⟨by decide, by decide⟩) (pcs_pre hN) rfl rfl hl.1 rfl (lv_room (Nat.le_of_ble_eq_true rfl)) d_K_holds_84 ⟨Nat.zero_le _, Nat.zero_le _⟩).run (fun z9 hz9 => ?_)
          obtain rfl : r20 = z9 := hz9.symm
          refine lv_iload hx hb d_K_holds_87 (lv_at hl 6 rfl) ?_
          refine lv_i2l (v := Int32.toInt64 a2) hx hb d_K_holds_89 rfl ?_
          refine W.lcmp hx hb d_K_holds_90 ?_
          refine lv_if_ne hx hb d_K_holds_91 (tgt := 98) (by decide) (fun h9 => ?_) (fun h9 => ?_)
          · have hF := (if_neg h9).symm.trans hF
            refine lv_iconst (v := 0) hx hb d_K_holds_98 (by decide) ?_
            obtain rfl := Option.some.inj hF
            exact k15 _ _ ls hP hD hS (lv_sub hl [] rfl)
          · have hF := (if_pos h9).symm.trans hF
            refine lv_iconst (v := 1) hx hb d_K_holds_94 (by decide) ?_
            refine lv_goto hx hb d_K_holds_95 (tgt := 99) (by decide) ?_
            obtain rfl := Option.some.inj hF
            exact k15 _ _ ls hP hD hS (lv_sub hl [] rfl)
    · have hF := (if_pos h9).symm.trans hF
      refine lv_iconst (v := 0) hx hb d_K_holds_32 (by decide) ?_
      cases hF
def f_K_bundle (g0 : sK) (a0 : Int32) (a1 : Int64) (a2 : Int32) (a3 : Int32) : Option (Except (String × sK) (Int32 × sK)) := Option.bind (f_K_needSlot a0) (fun x1 => match x1 with | .error E9 => some (.error (E9, g0)) | .ok _ => (Option.bind (f_K_pointOf g0 a0) (fun x4 => match x4 with | .error E9 => some (.error E9) | .ok (r6, g7) => (Option.bind (f_I_areFull g7 ) (fun t10 => match t10 with | (r9, g8) => (if r9 = 0 then (Option.bind (f_I_put g8 r6 a1 a2 a3) (fun t13 => match t13 with | (r12, g11) => (some (.ok (r12, g11))))) else (some (.error ("java/lang/UnsupportedOperationException", g8)))))))))
abbrev rm_K_bundle : Room := { frames := 4, cells := 0, slots := 0, locals := 89 }
abbrev rx_K_bundle : Room := { frames := 7, cells := 1, slots := 6, locals := 111 }
set_option maxHeartbeats 4000000 in
set_option maxRecDepth 100000 in
theorem k_K_bundle_ok (l : Launch) (D : va_G) (A : Nat → Nat) (cc : Nat → ClassId) (g0 : sK) (a0 : Int32) (a1 : Int64) (a2 : Int32) (a3 : Int32) (sz : Nat) (res : (Int32 × sK)) (hF : f_K_bundle g0 a0 a1 a2 a3 = some (.ok res)) : Met l y_K_bundle (Cond.code y_K_bundle b_K_bundle 8 (some .int) :: wa) rm_K_bundle (pw D (wK A cc g0) (kK cc) [.ref (A 0), .int a0, .long a1, .int a2, .int a3] sz) (va_Qi (fun r u => (r, u) = res) (bw D (wK A cc) (kK cc) (va_A (wK A cc g0) sz)) (va_A (wK A cc g0) sz)) 0 0 (va_A (wK A cc g0) sz) := by
  refine Met.ofW (cc := b_K_bundle) (maxL := 8) (ret := (some .int)) (by decide) rfl ?_
  intro p e s m args below meth c s₁ B hml hv
  obtain ⟨rfl, hsz, hP, hK, hD0, hN⟩ := hv
  subst hsz
  have hD := hD0.self (sz := s.heap.size)
  generalize hAe : va_A (wK A cc g0) s.heap.size = AA at hD ⊢
  have hx := B.exec
  have hb := B.bytes
  have hr := B.returns
  have hts := atoms_spec (ws := Cond.code y_K_bundle b_K_bundle 8 (some .int) :: wa) B.pre
  have hw : ∀ w ∈ wa, w.before _ s = true := fun w h => hts w (List.mem_cons_of_mem _ h)
  have hown : s.vm.findClass R_K = some m.cls := findClass_of_methodNamed B.named
  have hlocks := B.notSynchronized
  have hA : ∀ q : Nat, s.heap.size ≤ q → AA q := fun q h => by rw [← hAe]; exact Or.inr h
  have hS : va_S AA s.heap s.heap [] := va_S.rf
  have hl := lv_entry ([.ref (A 0), .int a0, .long a1, .int a2, .int a3]) (n := 8) (Nat.le_of_ble_eq_true rfl)
  rw [lg_entry_eq]
  generalize (lg_sl ([.ref (A 0), .int a0, .long a1, .int a2, .int a3]) ++ List.replicate (8 - (lg_sl ([.ref (A 0), .int a0, .long a1, .int a2, .int a3])).length) Slot.unset).toArray = ls at hl ⊢
  have hl : lv_has ls 8 [(0, .ref (A 0)), (1, .int a0), (2, .long a1), (4, .int a2), (5, .int a3)] := hl
  unfold f_K_bundle at hF
  refine lv_iload_n hx hb d_K_bundle_0 rfl (lv_at hl 1 rfl) ?_
  obtain ⟨x1, e_x1, hF⟩ := Option.bind_eq_some_iff.mp hF
  rcases x1 with E2 | n3
  · cases hF
  refine va_csv (va_runS (As := [.int a0]) (rest := []) ⟨hx, hb, hml, hown, hts⟩ (k_K_needSlot_ok l a0 n3 e_x1) (va_cwS 1 hts (ga_S ww_225 ww_226 ww_1 ww_227) rfl rfl rfl (by decide +kernel) ⟨by decide, by decide⟩) (pcs_pre hN) rfl rfl hl.1 rfl (lv_room (Nat.le_of_ble_eq_true rfl)) d_K_bundle_1 ⟨Nat.zero_le _, Nat.zero_le _⟩).run (fun _ => ?_)
  refine lv_aload_n hx hb d_K_bundle_4 rfl (lv_at hl 0 rfl) ?_
  refine lv_iload_n hx hb d_K_bundle_5 rfl (lv_at hl 1 rfl) ?_
  obtain ⟨x4, e_x4, hF⟩ := Option.bind_eq_some_iff.mp hF
  rcases x4 with ⟨E5, hE5⟩ | ⟨r6, g7⟩
  · cases hF
  have hFc := va_free (wc := wK A cc g0) hD hS hA [0, 1, 2, 3, 4, 5, 6, 7, 8, 9] rfl
  refine va_calll (va_runV (As := [.int a0]) (rest := []) ⟨hx, hb, hml, hown, hts⟩ (k_K_pointOf_ok l D A cc g0 a0 _ (r6, g7) e_x4) (cwV 1 hts (ga_V ww_346 ww_348 wp_5 ww_1 ww_349) rfl rfl rfl (by decide +kernel) ⟨by decide, by decide⟩) (pw_pre (q0 := 0) (ci := 2) hP hK hD hN rfl rfl) rfl rfl hl.1 rfl (lv_room (Nat.le_of_ble_eq_true rfl)) d_K_bundle_6 ⟨Nat.zero_le _, Nat.zero_le _⟩) hS (fun q _ h => hFc q h) hFc (fun r9 u9 t H locs ht hvm hp hB hz1 hk1 hS => ?_)
  obtain ⟨rfl, rfl⟩ := Prod.mk.inj hp.symm
  obtain ⟨hP, hD⟩ := bw_back hB ht hFc
  refine lv_lstore hx hb d_K_bundle_9 hl (by decide) (lv' := [(6, .long r6), (0, .ref (A 0)), (1, .int a0), (2, .long a1), (4, .int a2), (5, .int a3)]) rfl (fun ls hl => ?_)
  refine lv_aload_n hx hb d_K_bundle_11 rfl (lv_at hl 1 rfl) ?_
  refine va_get (D := D) (ci := 2) (v := .ref (A 3)) (C := R_K) (T := T_K) (N := 5) hx hb hts in_K hown hK hP 0 rfl rfl 2 (by decide) (hw _ ww_64) (fun _ h9 => h9) rfl d_K_bundle_12 ?_
  obtain ⟨⟨r9, g8⟩, e_g8, hF⟩ := Option.bind_eq_some_iff.mp hF
  have hFc := va_free (wc := wK A cc g7) hD hS hA [0, 1, 2, 3, 4, 5, 6, 7, 8, 9] rfl
  refine va_calli (va_runV (As := []) (rest := []) ⟨hx, hb, hml, hown, hts⟩ (k_I_areFull l D A cc g7  _ (r9, g8) e_g8) (cwV 0 hts (ga_V ww_486 ww_487 ww_488 ww_2 ww_489) rfl rfl rfl (by decide +kernel) ⟨by decide, by decide⟩) (pw_pre (q0 := 3) (ci := 0) hP hK hD hN rfl rfl) rfl rfl hl.1 rfl (lv_room (Nat.le_of_ble_eq_true rfl)) d_K_bundle_15 ⟨Nat.zero_le _, Nat.zero_le _⟩) hS (fun q _ h => hFc q h) hFc (fun r9 u9 t H locs ht hvm hp hB hz1 hk1 hS => ?_)
  obtain ⟨rfl, rfl⟩ := Prod.mk.inj hp.symm
  obtain ⟨hP, hD⟩ := bw_back hB ht hFc
  refine lv_if_eq hx hb d_K_bundle_18 (tgt := 29) (by decide) (fun h9 => ?_) (fun h9 => ?_)
  · have hF := (if_pos h9).symm.trans hF
    refine lv_aload_n hx hb d_K_bundle_29 rfl (lv_at hl 1 rfl) ?_
    refine va_get (D := D) (ci := 2) (v := .ref (A 3)) (C := R_K) (T := T_K) (N := 5) hx hb hts in_K hown hK hP 0 rfl rfl 2 (by decide) (hw _ ww_64) (fun _ h9 => h9) rfl d_K_bundle_30 ?_
    refine lv_lload hx hb d_K_bundle_33 (lv_at hl 0 rfl) ?_
    refine lv_lload_n hx hb d_K_bundle_35 rfl (lv_at hl 3 rfl) ?_
    refine lv_iload hx hb d_K_bundle_36 (lv_at hl 4 rfl) ?_
    refine lv_iload hx hb d_K_bundle_38 (lv_at hl 5 rfl) ?_
    obtain ⟨⟨r12, g11⟩, e_g11, hF⟩ := Option.bind_eq_some_iff.mp hF
    have hFc := va_free (wc := wK A cc g8) hD hS hA [0, 1, 2, 3, 4, 5, 6, 7, 8, 9] rfl
    refine va_calli (va_runV (As := [.long r6, .long a1, .int a2, .int a3]) (rest := []) ⟨hx, hb, hml, hown, hts⟩ (k_I_put l D A cc g8 r6 a1 a2 a3 _ (r12, g11) e_g11) (cwV 4 hts (ga_V ww_490 ww_491 ww_492 ww_2 ww_493) rfl rfl rfl (by decide +kernel) ⟨by decide, by decide⟩) (pw_pre (q0 := 3) (ci := 0) hP hK hD hN rfl rfl) rfl rfl hl.1 rfl (lv_room (Nat.le_of_ble_eq_true rfl)) d_K_bundle_40 ⟨Nat.zero_le _, Nat.zero_le _⟩) hS (fun q _ h => hFc q h) hFc (fun r9 u9 t H locs ht hvm hp hB hz1 hk1 hS => ?_)
    obtain ⟨rfl, rfl⟩ := Prod.mk.inj hp.symm
    obtain ⟨hP, hD⟩ := bw_back hB ht hFc
    cases hF
    exact W.iret hx hb hr (fun t ht hW => ⟨⟨_, _, rfl, rfl, bw_end hP hK hD ht hW⟩, hS.F ht⟩) hS.2.2 d_K_bundle_43
  · have hF := (if_neg h9).symm.trans hF
    cases hF
set_option maxHeartbeats 4000000 in
set_option maxRecDepth 100000 in
theorem k_K_bundle_er (l : Launch) (hl0 : l.stackTraces = false) (D : va_G) (A : Nat → Nat) (cc : Nat → ClassId) (g0 : sK) (a0 : Int32) (a1 : Int64) (a2 : Int32) (a3 : Int32) (sz : Nat) (E0 : String) (gE : sK) (hF : f_K_bundle g0 a0 a1 a2 a3 = some (.error (E0, gE))) : vx_Met l y_K_bundle (Cond.code y_K_bundle b_K_bundle 8 (some .int) :: wa) rx_K_bundle (pwx D (wK A cc g0) (kK cc) [.ref (A 0), .int a0, .long a1, .int a2, .int a3] sz) (va_Qi (fun _ (_ : Unit) => False) (fun _ _ => True) (va_A (wK A cc g0) sz)) (vx_X (fun u => u = gE) (fun E u t => E = E0 ∧ bw D (wK A cc) (kK cc) (va_A (wK A cc g0) sz) u t) (va_A (wK A cc g0) sz)) 1 6 (va_A (wK A cc g0) sz) := by
  refine vx_ofW (cc := b_K_bundle) (maxL := 8) (ret := (some .int)) (by decide) rfl ?_
  intro p e s m args below meth c s₁ B hml hout hv
  obtain ⟨⟨rfl, hsz, hP, hK, hD0, hN⟩, hX, hZ⟩ := hv
  subst hsz
  have hD := hD0.self (sz := s.heap.size)
  generalize hAe : va_A (wK A cc g0) s.heap.size = AA at hD hZ ⊢
  have hx := B.exec
  have hb := B.bytes
  have hr := B.returns
  have hts := atoms_spec (ws := Cond.code y_K_bundle b_K_bundle 8 (some .int) :: wa) B.pre
  have hw : ∀ w ∈ wa, w.before _ s = true := fun w h => hts w (List.mem_cons_of_mem _ h)
  have hown : s.vm.findClass R_K = some m.cls := findClass_of_methodNamed B.named
  have hlocks := B.notSynchronized
  have hA : ∀ q : Nat, s.heap.size ≤ q → AA q := fun q h => by rw [← hAe]; exact Or.inr h
  have hS : va_S AA s.heap s.heap [] := va_S.rf
  have hl := lv_entry ([.ref (A 0), .int a0, .long a1, .int a2, .int a3]) (n := 8) (Nat.le_of_ble_eq_true rfl)
  rw [lg_entry_eq]
  generalize (lg_sl ([.ref (A 0), .int a0, .long a1, .int a2, .int a3]) ++ List.replicate (8 - (lg_sl ([.ref (A 0), .int a0, .long a1, .int a2, .int a3])).length) Slot.unset).toArray = ls at hl ⊢
  have hl : lv_has ls 8 [(0, .ref (A 0)), (1, .int a0), (2, .long a1), (4, .int a2), (5, .int a3)] := hl
  unfold f_K_bundle at hF
  refine lv_iload_n hx hb d_K_bundle_0 rfl (lv_at hl 1 rfl) ?_
  obtain ⟨x1, e_x1, hF⟩ := Option.bind_eq_some_iff.mp hF
  rcases x1 with E2 | n3
  · cases hF
    have hFc : ∀ q, fr (Array.size _) q → AA q := fun q h => hA q (Nat.le_trans hS.1 h)
    refine vx_callv (vx_runS (As := [.int a0]) (rest := []) ⟨hx, hb, hml, hown, hts⟩ (k_K_needSlot_er l hl0 a0 _ _ e_x1) (va_cwS 1 hts (ga_S ww_225 ww_226 ww_1 ww_227) rfl rfl rfl (by decide +kernel) ⟨by decide, by decide⟩) (pcx_pre hN hX hZ hS hA) rfl rfl hl.1 rfl (lv_room (Nat.le_of_ble_eq_true rfl)) d_K_bundle_1 ⟨Nat.le_of_ble_eq_true rfl, Nat.le_of_ble_eq_true rfl⟩) hS (fun q _ h => hFc q h) hFc (fun q _ h => hFc q h) (fun E ce q9 u t H1 locs ht hvm hpx hBX hz hk hS hce hcv hcl => ?_) (fun u t H1 locs _ _ hp _ _ _ _ => hp.elim)
    obtain rfl := hBX
    have hk : ∀ q : Nat, q < _ → H1[q]? = _ := fun q h => hk q h (fun z => Nat.lt_irrefl _ (Nat.lt_of_lt_of_le h z))
    have hP := xt_P hP hk
    exact vx_out (fun x h => (hout x h).elim) hlocks hce hcv hcl (fun t9 ht9 ha9 => ⟨_, rfl, ⟨rfl, by rw [ht9]; exact hP, va_K.moved ha9 hK, hD⟩, hS.F ht9⟩) hS.2.2 (Nat.le_of_ble_eq_true rfl) (Nat.le_of_ble_eq_true rfl)
  refine va_csv (va_runS (As := [.int a0]) (rest := []) ⟨hx, hb, hml, hown, hts⟩ (k_K_needSlot_ok l a0 n3 e_x1) (va_cwS 1 hts (ga_S ww_225 ww_226 ww_1 ww_227) rfl rfl rfl (by decide +kernel) ⟨by decide, by decide⟩) (pcs_pre hN) rfl rfl hl.1 rfl (lv_room (Nat.le_of_ble_eq_true rfl)) d_K_bundle_1 ⟨Nat.zero_le _, Nat.zero_le _⟩).run (fun _ => ?_)
  refine lv_aload_n hx hb d_K_bundle_4 rfl (lv_at hl 0 rfl) ?_
  refine lv_iload_n hx hb d_K_bundle_5 rfl (lv_at hl 1 rfl) ?_
  obtain ⟨x4, e_x4, hF⟩ := Option.bind_eq_some_iff.mp hF
  rcases x4 with ⟨E5, hE5⟩ | ⟨r6, g7⟩
  · have hFc := va_free (wc := wK A cc g0) hD hS hA [0, 1, 2, 3, 4, 5, 6, 7, 8, 9] rfl
    cases hF
    refine vx_calll (vx_runV (As := [.int a0]) (rest := []) ⟨hx, hb, hml, hown, hts⟩ (k_K_pointOf_er l hl0 D A cc g0 a0 _ _ _ e_x4) (cwV 1 hts (ga_V ww_346 ww_348 wp_5 ww_1 ww_349) rfl rfl rfl (by decide +kernel) ⟨by decide, by decide⟩) (pwx_pre (q0 := 0) (ci := 2) hP hK hD hN hX hZ hS hFc rfl rfl) rfl rfl hl.1 rfl (lv_room (Nat.le_of_ble_eq_true rfl)) d_K_bundle_6 ⟨Nat.le_of_ble_eq_true rfl, Nat.le_of_ble_eq_true rfl⟩) hS (fun q _ h => hFc q h) hFc (fun q _ h => hFc q h) (fun E ce q9 u t H1 locs ht hvm hpx hBX hz hk hS hce hcv hcl => ?_) (fun r9 u t H1 locs _ _ hp _ _ _ _ => hp.elim)
    obtain rfl := hpx
    obtain ⟨rfl, hB⟩ := hBX
    obtain ⟨hP, hD⟩ := bw_back hB ht hFc
    exact vx_out (fun x h => (hout x h).elim) hlocks hce hcv hcl (fun t9 ht9 ha9 => ⟨_, rfl, ⟨rfl, by rw [ht9]; exact hP, va_K.moved ha9 hK, hD⟩, hS.F ht9⟩) hS.2.2 (Nat.le_of_ble_eq_true rfl) (Nat.le_of_ble_eq_true rfl)
  have hFc := va_free (wc := wK A cc g0) hD hS hA [0, 1, 2, 3, 4, 5, 6, 7, 8, 9] rfl
  refine va_calll (va_runV (As := [.int a0]) (rest := []) ⟨hx, hb, hml, hown, hts⟩ (k_K_pointOf_ok l D A cc g0 a0 _ (r6, g7) e_x4) (cwV 1 hts (ga_V ww_346 ww_348 wp_5 ww_1 ww_349) rfl rfl rfl (by decide +kernel) ⟨by decide, by decide⟩) (pw_pre (q0 := 0) (ci := 2) hP hK hD hN rfl rfl) rfl rfl hl.1 rfl (lv_room (Nat.le_of_ble_eq_true rfl)) d_K_bundle_6 ⟨Nat.zero_le _, Nat.zero_le _⟩) hS (fun q _ h => hFc q h) hFc (fun r9 u9 t H locs ht hvm hp hB hz1 hk1 hS => ?_)
  obtain ⟨rfl, rfl⟩ := Prod.mk.inj hp.symm
  obtain ⟨hP, hD⟩ := bw_back hB ht hFc
  refine lv_lstore hx hb d_K_bundle_9 hl (by decide) (lv' := [(6, .long r6), (0, .ref (A 0)), (1, .int a0), (2, .long a1), (4, .int a2), (5, .int a3)]) rfl (fun ls hl => ?_)
  refine lv_aload_n hx hb d_K_bundle_11 rfl (lv_at hl 1 rfl) ?_
  refine va_get (D := D) (ci := 2) (v := .ref (A 3)) (C := R_K) (T := T_K) (N := 5) hx hb hts in_K hown hK hP 0 rfl rfl 2 (by decide) (hw _ ww_64) (fun _ h9 => h9) rfl d_K_bundle_12 ?_
  obtain ⟨⟨r9, g8⟩, e_g8, hF⟩ := Option.bind_eq_some_iff.mp hF
  have hFc := va_free (wc := wK A cc g7) hD hS hA [0, 1, 2, 3, 4, 5, 6, 7, 8, 9] rfl
  refine va_calli (va_runV (As := []) (rest := []) ⟨hx, hb, hml, hown, hts⟩ (k_I_areFull l D A cc g7  _ (r9, g8) e_g8) (cwV 0 hts (ga_V ww_486 ww_487 ww_488 ww_2 ww_489) rfl rfl rfl (by decide +kernel) ⟨by decide, by decide⟩) (pw_pre (q0 := 3) (ci := 0) hP hK hD hN rfl rfl) rfl rfl hl.1 rfl (lv_room (Nat.le_of_ble_eq_true rfl)) d_K_bundle_15 ⟨Nat.zero_le _, Nat.zero_le _⟩) hS (fun q _ h => hFc q h) hFc (fun r9 u9 t H locs ht hvm hp hB hz1 hk1 hS => ?_)
  obtain ⟨rfl, rfl⟩ := Prod.mk.inj hp.symm
  obtain ⟨hP, hD⟩ := bw_back hB ht hFc
  refine lv_if_eq hx hb d_K_bundle_18 (tgt := 29) (by decide) (fun h9 => ?_) (fun h9 => ?_)
  · have hF := (if_pos h9).symm.trans hF
    refine lv_aload_n hx hb d_K_bundle_29 rfl (lv_at hl 1 rfl) ?_
    refine va_get (D := D) (ci := 2) (v := .ref (A 3)) (C := R_K) (T := T_K) (N := 5) hx hb hts in_K hown hK hP 0 rfl rfl 2 (by decide) (hw _ ww_64) (fun _ h9 => h9) rfl d_K_bundle_30 ?_
    refine lv_lload hx hb d_K_bundle_33 (lv_at hl 0 rfl) ?_
    refine lv_lload_n hx hb d_K_bundle_35 rfl (lv_at hl 3 rfl) ?_
    refine lv_iload hx hb d_K_bundle_36 (lv_at hl 4 rfl) ?_
    refine lv_iload hx hb d_K_bundle_38 (lv_at hl 5 rfl) ?_
    obtain ⟨⟨r12, g11⟩, e_g11, hF⟩ := Option.bind_eq_some_iff.mp hF
    have hFc := va_free (wc := wK A cc g8) hD hS hA [0, 1, 2, 3, 4, 5, 6, 7, 8, 9] rfl
    refine va_calli (va_runV (As := [.long r6, .long a1, .int a2, .int a3]) (rest := []) ⟨hx, hb, hml, hown, hts⟩ (k_I_put l D A cc g8 r6 a1 a2 a3 _ (r12, g11) e_g11) (cwV 4 hts (ga_V ww_490 ww_491 ww_492 ww_2 ww_493) rfl rfl rfl (by decide +kernel) ⟨by decide, by decide⟩) (pw_pre (q0 := 3) (ci := 0) hP hK hD hN rfl rfl) rfl rfl hl.1 rfl (lv_room (Nat.le_of_ble_eq_true rfl)) d_K_bundle_40 ⟨Nat.zero_le _, Nat.zero_le _⟩) hS (fun q _ h => hFc q h) hFc (fun r9 u9 t H locs ht hvm hp hB hz1 hk1 hS => ?_)
    obtain ⟨rfl, rfl⟩ := Prod.mk.inj hp.symm
    obtain ⟨hP, hD⟩ := bw_back hB ht hFc
    cases hF
  · have hF := (if_neg h9).symm.trans hF
    cases hF
    exact vx_throw0 (cls := "java/lang/UnsupportedOperationException") (names := ["java/lang/RuntimeException", "java/lang/Exception"]) (ik := 114) (ic := 116) (A := AA) hx hb hl0 hown (by decide) (by decide) (hw _ ww_427) (hw _ ww_15) (xt_hat hw hX xg_UnsupportedOperationException xn_UnsupportedOperationException) xo_UnsupportedOperationException hZ.1 hZ.2 hS (hl.1.trans hml.symm) d_K_bundle_21 d_K_bundle_24 d_K_bundle_25 d_K_bundle_28 (fun x h => (hout x h).elim) (Nat.le_of_ble_eq_true rfl) (Nat.le_of_ble_eq_true rfl) (Nat.le_of_ble_eq_true rfl) (Nat.le_of_ble_eq_true rfl) hlocks (fun t ha hz hk => ⟨_, rfl, ⟨rfl, xt_bw hP hK hD hk ha⟩, xt_F hS hz hk⟩) hS.2.2 (Nat.le_of_ble_eq_true rfl) (Nat.le_of_ble_eq_true rfl)
def f_K_agree (g0 : sK) (a0 : Int32) (a1 : Int32) : Option (Except (String × sK) (Int64 × sK)) := Option.bind (f_K_needSlot a0) (fun x1 => match x1 with | .error E9 => some (.error (E9, g0)) | .ok _ => (Option.bind (f_K_needSlot a1) (fun x4 => match x4 with | .error E9 => some (.error (E9, g0)) | .ok _ => (Option.bind (f_K_secretOf g0 a0) (fun x7 => match x7 with | .error E9 => some (.error E9) | .ok (r9, g10) => (Option.bind (f_K_pointOf g10 a1) (fun x11 => match x11 with | .error E9 => some (.error E9) | .ok (r13, g14) => (Option.bind (f_C_multiple r9 r13) (fun r15 => Option.bind (f_C_xOf r15) (fun r16 => Option.bind (f_C_yOf r15) (fun r17 => Option.bind (f_K_mix r16 r17) (fun r18 => some (.ok (r18, g14))))))))))))))
abbrev rm_K_agree : Room := { frames := 4, cells := 0, slots := 0, locals := 120 }
abbrev rx_K_agree : Room := { frames := 7, cells := 1, slots := 6, locals := 120 }
set_option maxHeartbeats 4000000 in
set_option maxRecDepth 100000 in
theorem k_K_agree_ok (l : Launch) (D : va_G) (A : Nat → Nat) (cc : Nat → ClassId) (g0 : sK) (a0 : Int32) (a1 : Int32) (sz : Nat) (res : (Int64 × sK)) (hF : f_K_agree g0 a0 a1 = some (.ok res)) : Met l y_K_agree (Cond.code y_K_agree b_K_agree 7 (some .long) :: wa) rm_K_agree (pw D (wK A cc g0) (kK cc) [.ref (A 0), .int a0, .int a1] sz) (va_Ql (fun r u => (r, u) = res) (bw D (wK A cc) (kK cc) (va_A (wK A cc g0) sz)) (va_A (wK A cc g0) sz)) 0 0 (va_A (wK A cc g0) sz) := by
  refine Met.ofW (cc := b_K_agree) (maxL := 7) (ret := (some .long)) (by decide) rfl ?_
  intro p e s m args below meth c s₁ B hml hv
  obtain ⟨rfl, hsz, hP, hK, hD0, hN⟩ := hv
  subst hsz
  have hD := hD0.self (sz := s.heap.size)
  generalize hAe : va_A (wK A cc g0) s.heap.size = AA at hD ⊢
  have hx := B.exec
  have hb := B.bytes
  have hr := B.returns
  have hts := atoms_spec (ws := Cond.code y_K_agree b_K_agree 7 (some .long) :: wa) B.pre
  have hw : ∀ w ∈ wa, w.before _ s = true := fun w h => hts w (List.mem_cons_of_mem _ h)
  have hown : s.vm.findClass R_K = some m.cls := findClass_of_methodNamed B.named
  have hlocks := B.notSynchronized
  have hA : ∀ q : Nat, s.heap.size ≤ q → AA q := fun q h => by rw [← hAe]; exact Or.inr h
  have hS : va_S AA s.heap s.heap [] := va_S.rf
  have hl := lv_entry ([.ref (A 0), .int a0, .int a1]) (n := 7) (Nat.le_of_ble_eq_true rfl)
  rw [lg_entry_eq]
  generalize (lg_sl ([.ref (A 0), .int a0, .int a1]) ++ List.replicate (7 - (lg_sl ([.ref (A 0), .int a0, .int a1])).length) Slot.unset).toArray = ls at hl ⊢
  have hl : lv_has ls 7 [(0, .ref (A 0)), (1, .int a0), (2, .int a1)] := hl
  unfold f_K_agree at hF
  refine lv_iload_n hx hb d_K_agree_0 rfl (lv_at hl 1 rfl) ?_
  obtain ⟨x1, e_x1, hF⟩ := Option.bind_eq_some_iff.mp hF
  rcases x1 with E2 | n3
  · cases hF
  refine va_csv (va_runS (As := [.int a0]) (rest := []) ⟨hx, hb, hml, hown, hts⟩ (k_K_needSlot_ok l a0 n3 e_x1) (va_cwS 1 hts (ga_S ww_225 ww_226 ww_1 ww_227) rfl rfl rfl (by decide +kernel) ⟨by decide, by decide⟩) (pcs_pre hN) rfl rfl hl.1 rfl (lv_room (Nat.le_of_ble_eq_true rfl)) d_K_agree_1 ⟨Nat.zero_le _, Nat.zero_le _⟩).run (fun _ => ?_)
  refine lv_iload_n hx hb d_K_agree_4 rfl (lv_at hl 2 rfl) ?_
  obtain ⟨x4, e_x4, hF⟩ := Option.bind_eq_some_iff.mp hF
  rcases x4 with E5 | n6
  · cases hF
  refine va_csv (va_runS (As := [.int a1]) (rest := []) ⟨hx, hb, hml, hown, hts⟩ (k_K_needSlot_ok l a1 n6 e_x4) (va_cwS 1 hts (ga_S ww_225 ww_226 ww_1 ww_227) rfl rfl rfl (by decide +kernel) ⟨by decide, by decide⟩) (pcs_pre hN) rfl rfl hl.1 rfl (lv_room (Nat.le_of_ble_eq_true rfl)) d_K_agree_5 ⟨Nat.zero_le _, Nat.zero_le _⟩).run (fun _ => ?_)
  refine lv_aload_n hx hb d_K_agree_8 rfl (lv_at hl 0 rfl) ?_
  refine lv_iload_n hx hb d_K_agree_9 rfl (lv_at hl 1 rfl) ?_
  obtain ⟨x7, e_x7, hF⟩ := Option.bind_eq_some_iff.mp hF
  rcases x7 with ⟨E8, hE8⟩ | ⟨r9, g10⟩
  · cases hF
  have hFc := va_free (wc := wK A cc g0) hD hS hA [0, 1, 2, 3, 4, 5, 6, 7, 8, 9] rfl
  refine va_calll (va_runV (As := [.int a0]) (rest := []) ⟨hx, hb, hml, hown, hts⟩ (k_K_secretOf_ok l D A cc g0 a0 _ (r9, g10) e_x7) (cwV 1 hts (ga_V ww_394 ww_396 wp_6 ww_1 ww_397) rfl rfl rfl (by decide +kernel) ⟨by decide, by decide⟩) (pw_pre (q0 := 0) (ci := 2) hP hK hD hN rfl rfl) rfl rfl hl.1 rfl (lv_room (Nat.le_of_ble_eq_true rfl)) d_K_agree_10 ⟨Nat.zero_le _, Nat.zero_le _⟩) hS (fun q _ h => hFc q h) hFc (fun r9 u9 t H locs ht hvm hp hB hz1 hk1 hS => ?_)
  obtain ⟨rfl, rfl⟩ := Prod.mk.inj hp.symm
  obtain ⟨hP, hD⟩ := bw_back hB ht hFc
  refine lv_lstore_n hx hb d_K_agree_13 rfl hl (by decide) (lv' := [(3, .long r9), (0, .ref (A 0)), (1, .int a0), (2, .int a1)]) rfl (fun ls hl => ?_)
  refine lv_lload_n hx hb d_K_agree_14 rfl (lv_at hl 0 rfl) ?_
  refine lv_aload_n hx hb d_K_agree_15 rfl (lv_at hl 1 rfl) ?_
  refine lv_iload_n hx hb d_K_agree_16 rfl (lv_at hl 3 rfl) ?_
  obtain ⟨x11, e_x11, hF⟩ := Option.bind_eq_some_iff.mp hF
  rcases x11 with ⟨E12, hE12⟩ | ⟨r13, g14⟩
  · cases hF
  have hFc := va_free (wc := wK A cc g10) hD hS hA [0, 1, 2, 3, 4, 5, 6, 7, 8, 9] rfl
  refine va_calll (va_runV (As := [.int a1]) (rest := [.long r9]) ⟨hx, hb, hml, hown, hts⟩ (k_K_pointOf_ok l D A cc g10 a1 _ (r13, g14) e_x11) (cwV 1 hts (ga_V ww_346 ww_348 wp_5 ww_1 ww_349) rfl rfl rfl (by decide +kernel) ⟨by decide, by decide⟩) (pw_pre (q0 := 0) (ci := 2) hP hK hD hN rfl rfl) rfl rfl hl.1 rfl (lv_room (Nat.le_of_ble_eq_true rfl)) d_K_agree_17 ⟨Nat.zero_le _, Nat.zero_le _⟩) hS (fun q _ h => hFc q h) hFc (fun r9 u9 t H locs ht hvm hp hB hz1 hk1 hS => ?_)
  obtain ⟨rfl, rfl⟩ := Prod.mk.inj hp.symm
  obtain ⟨hP, hD⟩ := bw_back hB ht hFc
  obtain ⟨r15, e_r15, hF⟩ := Option.bind_eq_some_iff.mp hF
  refine vp_callSl (va_runS (As := [.long r9, .long r13]) (rest := []) ⟨hx, hb, hml, hown, hts⟩ (k_C_multiple l r9 r13 r15 e_r15) (va_cwS 2 hts (ga_S ww_315 ww_152 ww_11 ww_153) rfl rfl rfl (by decide +kernel) ⟨by decide, by decide⟩) (pcs_pre hN) rfl rfl hl.1 rfl (lv_room (Nat.le_of_ble_eq_true rfl)) d_K_agree_20 ⟨Nat.zero_le _, Nat.zero_le _⟩).run (fun z9 hz9 => ?_)
  obtain rfl : r15 = z9 := hz9.symm
  refine lv_lstore hx hb d_K_agree_23 hl (by decide) (lv' := [(5, .long r15), (3, .long r9), (0, .ref (A 0)), (1, .int a0), (2, .int a1)]) rfl (fun ls hl => ?_)
  refine lv_lload hx hb d_K_agree_25 (lv_at hl 0 rfl) ?_
  obtain ⟨r16, e_r16, hF⟩ := Option.bind_eq_some_iff.mp hF
  refine vp_callSl (va_runS (As := [.long r15]) (rest := []) ⟨hx, hb, hml, hown, hts⟩ (k_C_xOf l r15 r16 e_r16) (va_cwS 1 hts (ga_S ww_417 ww_104 ww_11 ww_105) rfl rfl rfl (by decide +kernel) ⟨by decide, by decide⟩) (pcs_pre hN) rfl rfl hl.1 rfl (lv_room (Nat.le_of_ble_eq_true rfl)) d_K_agree_27 ⟨Nat.zero_le _, Nat.zero_le _⟩).run (fun z9 hz9 => ?_)
  obtain rfl : r16 = z9 := hz9.symm
  refine lv_lload hx hb d_K_agree_30 (lv_at hl 0 rfl) ?_
  obtain ⟨r17, e_r17, hF⟩ := Option.bind_eq_some_iff.mp hF
  refine vp_callSl (va_runS (As := [.long r15]) (rest := [.long r16]) ⟨hx, hb, hml, hown, hts⟩ (k_C_yOf l r15 r17 e_r17) (va_cwS 1 hts (ga_S ww_502 ww_107 ww_11 ww_108) rfl rfl rfl (by decide +kernel) ⟨by decide, by decide⟩) (pcs_pre hN) rfl rfl hl.1 rfl (lv_room (Nat.le_of_ble_eq_true rfl)) d_K_agree_32 ⟨Nat.zero_le _, Nat.zero_le _⟩).run (fun z9 hz9 => ?_)
  obtain rfl : r17 = z9 := hz9.symm
  obtain ⟨r18, e_r18, hF⟩ := Option.bind_eq_some_iff.mp hF
  refine vp_callSl (va_runS (As := [.long r16, .long r17]) (rest := []) ⟨hx, hb, hml, hown, hts⟩ (k_K_mix l r16 r17 r18 e_r18) (va_cwS 2 hts (ga_S ww_145 ww_133 ww_1 ww_134) rfl rfl rfl (by decide +kernel) ⟨by decide, by decide⟩) (pcs_pre hN) rfl rfl hl.1 rfl (lv_room (Nat.le_of_ble_eq_true rfl)) d_K_agree_35 ⟨Nat.zero_le _, Nat.zero_le _⟩).run (fun z9 hz9 => ?_)
  obtain rfl : r18 = z9 := hz9.symm
  cases hF
  exact W.lret hx hb hr (fun t ht hW => ⟨⟨_, _, rfl, rfl, bw_end hP hK hD ht hW⟩, hS.F ht⟩) hS.2.2 d_K_agree_38
set_option maxHeartbeats 4000000 in
set_option maxRecDepth 100000 in
theorem k_K_agree_er (l : Launch) (hl0 : l.stackTraces = false) (D : va_G) (A : Nat → Nat) (cc : Nat → ClassId) (g0 : sK) (a0 : Int32) (a1 : Int32) (sz : Nat) (E0 : String) (gE : sK) (hF : f_K_agree g0 a0 a1 = some (.error (E0, gE))) : vx_Met l y_K_agree (Cond.code y_K_agree b_K_agree 7 (some .long) :: wa) rx_K_agree (pwx D (wK A cc g0) (kK cc) [.ref (A 0), .int a0, .int a1] sz) (va_Ql (fun _ (_ : Unit) => False) (fun _ _ => True) (va_A (wK A cc g0) sz)) (vx_X (fun u => u = gE) (fun E u t => E = E0 ∧ bw D (wK A cc) (kK cc) (va_A (wK A cc g0) sz) u t) (va_A (wK A cc g0) sz)) 1 6 (va_A (wK A cc g0) sz) := by
  refine vx_ofW (cc := b_K_agree) (maxL := 7) (ret := (some .long)) (by decide) rfl ?_
  intro p e s m args below meth c s₁ B hml hout hv
  obtain ⟨⟨rfl, hsz, hP, hK, hD0, hN⟩, hX, hZ⟩ := hv
  subst hsz
  have hD := hD0.self (sz := s.heap.size)
  generalize hAe : va_A (wK A cc g0) s.heap.size = AA at hD hZ ⊢
  have hx := B.exec
  have hb := B.bytes
  have hr := B.returns
  have hts := atoms_spec (ws := Cond.code y_K_agree b_K_agree 7 (some .long) :: wa) B.pre
  have hw : ∀ w ∈ wa, w.before _ s = true := fun w h => hts w (List.mem_cons_of_mem _ h)
  have hown : s.vm.findClass R_K = some m.cls := findClass_of_methodNamed B.named
  have hlocks := B.notSynchronized
  have hA : ∀ q : Nat, s.heap.size ≤ q → AA q := fun q h => by rw [← hAe]; exact Or.inr h
  have hS : va_S AA s.heap s.heap [] := va_S.rf
  have hl := lv_entry ([.ref (A 0), .int a0, .int a1]) (n := 7) (Nat.le_of_ble_eq_true rfl)
  rw [lg_entry_eq]
  generalize (lg_sl ([.ref (A 0), .int a0, .int a1]) ++ List.replicate (7 - (lg_sl ([.ref (A 0), .int a0, .int a1])).length) Slot.unset).toArray = ls at hl ⊢
  have hl : lv_has ls 7 [(0, .ref (A 0)), (1, .int a0), (2, .int a1)] := hl
  unfold f_K_agree at hF
  refine lv_iload_n hx hb d_K_agree_0 rfl (lv_at hl 1 rfl) ?_
  obtain ⟨x1, e_x1, hF⟩ := Option.bind_eq_some_iff.mp hF
  rcases x1 with E2 | n3
  · cases hF
    have hFc : ∀ q, fr (Array.size _) q → AA q := fun q h => hA q (Nat.le_trans hS.1 h)
    refine vx_callv (vx_runS (As := [.int a0]) (rest := []) ⟨hx, hb, hml, hown, hts⟩ (k_K_needSlot_er l hl0 a0 _ _ e_x1) (va_cwS 1 hts (ga_S ww_225 ww_226 ww_1 ww_227) rfl rfl rfl (by decide +kernel) ⟨by decide, by decide⟩) (pcx_pre hN hX hZ hS hA) rfl rfl hl.1 rfl (lv_room (Nat.le_of_ble_eq_true rfl)) d_K_agree_1 ⟨Nat.le_of_ble_eq_true rfl, Nat.le_of_ble_eq_true rfl⟩) hS (fun q _ h => hFc q h) hFc (fun q _ h => hFc q h) (fun E ce q9 u t H1 locs ht hvm hpx hBX hz hk hS hce hcv hcl => ?_) (fun u t H1 locs _ _ hp _ _ _ _ => hp.elim)
    obtain rfl := hBX
    have hk : ∀ q : Nat, q < _ → H1[q]? = _ := fun q h => hk q h (fun z => Nat.lt_irrefl _ (Nat.lt_of_lt_of_le h z))
    have hP := xt_P hP hk
    exact vx_out (fun x h => (hout x h).elim) hlocks hce hcv hcl (fun t9 ht9 ha9 => ⟨_, rfl, ⟨rfl, by rw [ht9]; exact hP, va_K.moved ha9 hK, hD⟩, hS.F ht9⟩) hS.2.2 (Nat.le_of_ble_eq_true rfl) (Nat.le_of_ble_eq_true rfl)
  refine va_csv (va_runS (As := [.int a0]) (rest := []) ⟨hx, hb, hml, hown, hts⟩ (k_K_needSlot_ok l a0 n3 e_x1) (va_cwS 1 hts (ga_S ww_225 ww_226 ww_1 ww_227) rfl rfl rfl (by decide +kernel) ⟨by decide, by decide⟩) (pcs_pre hN) rfl rfl hl.1 rfl (lv_room (Nat.le_of_ble_eq_true rfl)) d_K_agree_1 ⟨Nat.zero_le _, Nat.zero_le _⟩).run (fun _ => ?_)
  refine lv_iload_n hx hb d_K_agree_4 rfl (lv_at hl 2 rfl) ?_
  obtain ⟨x4, e_x4, hF⟩ := Option.bind_eq_some_iff.mp hF
  rcases x4 with E5 | n6
  · cases hF
    have hFc : ∀ q, fr (Array.size _) q → AA q := fun q h => hA q (Nat.le_trans hS.1 h)
    refine vx_callv (vx_runS (As := [.int a1]) (rest := []) ⟨hx, hb, hml, hown, hts⟩ (k_K_needSlot_er l hl0 a1 _ _ e_x4) (va_cwS 1 hts (ga_S ww_225 ww_226 ww_1 ww_227) rfl rfl rfl (by decide +kernel) ⟨by decide, by decide⟩) (pcx_pre hN hX hZ hS hA) rfl rfl hl.1 rfl (lv_room (Nat.le_of_ble_eq_true rfl)) d_K_agree_5 ⟨Nat.le_of_ble_eq_true rfl, Nat.le_of_ble_eq_true rfl⟩) hS (fun q _ h => hFc q h) hFc (fun q _ h => hFc q h) (fun E ce q9 u t H1 locs ht hvm hpx hBX hz hk hS hce hcv hcl => ?_) (fun u t H1 locs _ _ hp _ _ _ _ => hp.elim)
    obtain rfl := hBX
    have hk : ∀ q : Nat, q < _ → H1[q]? = _ := fun q h => hk q h (fun z => Nat.lt_irrefl _ (Nat.lt_of_lt_of_le h z))
    have hP := xt_P hP hk
    exact vx_out (fun x h => (hout x h).elim) hlocks hce hcv hcl (fun t9 ht9 ha9 => ⟨_, rfl, ⟨rfl, by rw [ht9]; exact hP, va_K.moved ha9 hK, hD⟩, hS.F ht9⟩) hS.2.2 (Nat.le_of_ble_eq_true rfl) (Nat.le_of_ble_eq_true rfl)
  refine va_csv (va_runS (As := [.int a1]) (rest := []) ⟨hx, hb, hml, hown, hts⟩ (k_K_needSlot_ok l a1 n6 e_x4) (va_cwS 1 hts (ga_S ww_225 ww_226 ww_1 ww_227) rfl rfl rfl (by decide +kernel) ⟨by decide, by decide⟩) (pcs_pre hN) rfl rfl hl.1 rfl (lv_room (Nat.le_of_ble_eq_true rfl)) d_K_agree_5 ⟨Nat.zero_le _, Nat.zero_le _⟩).run (fun _ => ?_)
  refine lv_aload_n hx hb d_K_agree_8 rfl (lv_at hl 0 rfl) ?_
  refine lv_iload_n hx hb d_K_agree_9 rfl (lv_at hl 1 rfl) ?_
  obtain ⟨x7, e_x7, hF⟩ := Option.bind_eq_some_iff.mp hF
  rcases x7 with ⟨E8, hE8⟩ | ⟨r9, g10⟩
  · have hFc := va_free (wc := wK A cc g0) hD hS hA [0, 1, 2, 3, 4, 5, 6, 7, 8, 9] rfl
    cases hF
    refine vx_calll (vx_runV (As := [.int a0]) (rest := []) ⟨hx, hb, hml, hown, hts⟩ (k_K_secretOf_er l hl0 D A cc g0 a0 _ _ _ e_x7) (cwV 1 hts (ga_V ww_394 ww_396 wp_6 ww_1 ww_397) rfl rfl rfl (by decide +kernel) ⟨by decide, by decide⟩) (pwx_pre (q0 := 0) (ci := 2) hP hK hD hN hX hZ hS hFc rfl rfl) rfl rfl hl.1 rfl (lv_room (Nat.le_of_ble_eq_true rfl)) d_K_agree_10 ⟨Nat.le_of_ble_eq_true rfl, Nat.le_of_ble_eq_true rfl⟩) hS (fun q _ h => hFc q h) hFc (fun q _ h => hFc q h) (fun E ce q9 u t H1 locs ht hvm hpx hBX hz hk hS hce hcv hcl => ?_) (fun r9 u t H1 locs _ _ hp _ _ _ _ => hp.elim)
    obtain rfl := hpx
    obtain ⟨rfl, hB⟩ := hBX
    obtain ⟨hP, hD⟩ := bw_back hB ht hFc
    exact vx_out (fun x h => (hout x h).elim) hlocks hce hcv hcl (fun t9 ht9 ha9 => ⟨_, rfl, ⟨rfl, by rw [ht9]; exact hP, va_K.moved ha9 hK, hD⟩, hS.F ht9⟩) hS.2.2 (Nat.le_of_ble_eq_true rfl) (Nat.le_of_ble_eq_true rfl)
  have hFc := va_free (wc := wK A cc g0) hD hS hA [0, 1, 2, 3, 4, 5, 6, 7, 8, 9] rfl
  refine va_calll (va_runV (As := [.int a0]) (rest := []) ⟨hx, hb, hml, hown, hts⟩ (k_K_secretOf_ok l D A cc g0 a0 _ (r9, g10) e_x7) (cwV 1 hts (ga_V ww_394 ww_396 wp_6 ww_1 ww_397) rfl rfl rfl (by decide +kernel) ⟨by decide, by decide⟩) (pw_pre (q0 := 0) (ci := 2) hP hK hD hN rfl rfl) rfl rfl hl.1 rfl (lv_room (Nat.le_of_ble_eq_true rfl)) d_K_agree_10 ⟨Nat.zero_le _, Nat.zero_le _⟩) hS (fun q _ h => hFc q h) hFc (fun r9 u9 t H locs ht hvm hp hB hz1 hk1 hS => ?_)
  obtain ⟨rfl, rfl⟩ := Prod.mk.inj hp.symm
  obtain ⟨hP, hD⟩ := bw_back hB ht hFc
  refine lv_lstore_n hx hb d_K_agree_13 rfl hl (by decide) (lv' := [(3, .long r9), (0, .ref (A 0)), (1, .int a0), (2, .int a1)]) rfl (fun ls hl => ?_)
  refine lv_lload_n hx hb d_K_agree_14 rfl (lv_at hl 0 rfl) ?_
  refine lv_aload_n hx hb d_K_agree_15 rfl (lv_at hl 1 rfl) ?_
  refine lv_iload_n hx hb d_K_agree_16 rfl (lv_at hl 3 rfl) ?_
  obtain ⟨x11, e_x11, hF⟩ := Option.bind_eq_some_iff.mp hF
  rcases x11 with ⟨E12, hE12⟩ | ⟨r13, g14⟩
  · have hFc := va_free (wc := wK A cc g10) hD hS hA [0, 1, 2, 3, 4, 5, 6, 7, 8, 9] rfl
    cases hF
    refine vx_calll (vx_runV (As := [.int a1]) (rest := [.long r9]) ⟨hx, hb, hml, hown, hts⟩ (k_K_pointOf_er l hl0 D A cc g10 a1 _ _ _ e_x11) (cwV 1 hts (ga_V ww_346 ww_348 wp_5 ww_1 ww_349) rfl rfl rfl (by decide +kernel) ⟨by decide, by decide⟩) (pwx_pre (q0 := 0) (ci := 2) hP hK hD hN hX hZ hS hFc rfl rfl) rfl rfl hl.1 rfl (lv_room (Nat.le_of_ble_eq_true rfl)) d_K_agree_17 ⟨Nat.le_of_ble_eq_true rfl, Nat.le_of_ble_eq_true rfl⟩) hS (fun q _ h => hFc q h) hFc (fun q _ h => hFc q h) (fun E ce q9 u t H1 locs ht hvm hpx hBX hz hk hS hce hcv hcl => ?_) (fun r9 u t H1 locs _ _ hp _ _ _ _ => hp.elim)
    obtain rfl := hpx
    obtain ⟨rfl, hB⟩ := hBX
    obtain ⟨hP, hD⟩ := bw_back hB ht hFc
    exact vx_out (fun x h => (hout x h).elim) hlocks hce hcv hcl (fun t9 ht9 ha9 => ⟨_, rfl, ⟨rfl, by rw [ht9]; exact hP, va_K.moved ha9 hK, hD⟩, hS.F ht9⟩) hS.2.2 (Nat.le_of_ble_eq_true rfl) (Nat.le_of_ble_eq_true rfl)
  have hFc := va_free (wc := wK A cc g10) hD hS hA [0, 1, 2, 3, 4, 5, 6, 7, 8, 9] rfl
  refine va_calll (va_runV (As := [.int a1]) (rest := [.long r9]) ⟨hx, hb, hml, hown, hts⟩ (k_K_pointOf_ok l D A cc g10 a1 _ (r13, g14) e_x11) (cwV 1 hts (ga_V ww_346 ww_348 wp_5 ww_1 ww_349) rfl rfl rfl (by decide +kernel) ⟨by decide, by decide⟩) (pw_pre (q0 := 0) (ci := 2) hP hK hD hN rfl rfl) rfl rfl hl.1 rfl (lv_room (Nat.le_of_ble_eq_true rfl)) d_K_agree_17 ⟨Nat.zero_le _, Nat.zero_le _⟩) hS (fun q _ h => hFc q h) hFc (fun r9 u9 t H locs ht hvm hp hB hz1 hk1 hS => ?_)
  obtain ⟨rfl, rfl⟩ := Prod.mk.inj hp.symm
  obtain ⟨hP, hD⟩ := bw_back hB ht hFc
  obtain ⟨r15, e_r15, hF⟩ := Option.bind_eq_some_iff.mp hF
  refine vp_callSl (va_runS (As := [.long r9, .long r13]) (rest := []) ⟨hx, hb, hml, hown, hts⟩ (k_C_multiple l r9 r13 r15 e_r15) (va_cwS 2 hts (ga_S ww_315 ww_152 ww_11 ww_153) rfl rfl rfl (by decide +kernel) ⟨by decide, by decide⟩) (pcs_pre hN) rfl rfl hl.1 rfl (lv_room (Nat.le_of_ble_eq_true rfl)) d_K_agree_20 ⟨Nat.zero_le _, Nat.zero_le _⟩).run (fun z9 hz9 => ?_)
  obtain rfl : r15 = z9 := hz9.symm
  refine lv_lstore hx hb d_K_agree_23 hl (by decide) (lv' := [(5, .long r15), (3, .long r9), (0, .ref (A 0)), (1, .int a0), (2, .int a1)]) rfl (fun ls hl => ?_)
  refine lv_lload hx hb d_K_agree_25 (lv_at hl 0 rfl) ?_
  obtain ⟨r16, e_r16, hF⟩ := Option.bind_eq_some_iff.mp hF
  refine vp_callSl (va_runS (As := [.long r15]) (rest := []) ⟨hx, hb, hml, hown, hts⟩ (k_C_xOf l r15 r16 e_r16) (va_cwS 1 hts (ga_S ww_417 ww_104 ww_11 ww_105) rfl rfl rfl (by decide +kernel) ⟨by decide, by decide⟩) (pcs_pre hN) rfl rfl hl.1 rfl (lv_room (Nat.le_of_ble_eq_true rfl)) d_K_agree_27 ⟨Nat.zero_le _, Nat.zero_le _⟩).run (fun z9 hz9 => ?_)
  obtain rfl : r16 = z9 := hz9.symm
  refine lv_lload hx hb d_K_agree_30 (lv_at hl 0 rfl) ?_
  obtain ⟨r17, e_r17, hF⟩ := Option.bind_eq_some_iff.mp hF
  refine vp_callSl (va_runS (As := [.long r15]) (rest := [.long r16]) ⟨hx, hb, hml, hown, hts⟩ (k_C_yOf l r15 r17 e_r17) (va_cwS 1 hts (ga_S ww_502 ww_107 ww_11 ww_108) rfl rfl rfl (by decide +kernel) ⟨by decide, by decide⟩) (pcs_pre hN) rfl rfl hl.1 rfl (lv_room (Nat.le_of_ble_eq_true rfl)) d_K_agree_32 ⟨Nat.zero_le _, Nat.zero_le _⟩).run (fun z9 hz9 => ?_)
  obtain rfl : r17 = z9 := hz9.symm
  obtain ⟨r18, e_r18, hF⟩ := Option.bind_eq_some_iff.mp hF
  refine vp_callSl (va_runS (As := [.long r16, .long r17]) (rest := []) ⟨hx, hb, hml, hown, hts⟩ (k_K_mix l r16 r17 r18 e_r18) (va_cwS 2 hts (ga_S ww_145 ww_133 ww_1 ww_134) rfl rfl rfl (by decide +kernel) ⟨by decide, by decide⟩) (pcs_pre hN) rfl rfl hl.1 rfl (lv_room (Nat.le_of_ble_eq_true rfl)) d_K_agree_35 ⟨Nat.zero_le _, Nat.zero_le _⟩).run (fun z9 hz9 => ?_)
  obtain rfl : r18 = z9 := hz9.symm
  cases hF
def f_K_written (g0 : sK) (a0 : Int32) (a1 : Int32) (a2 : Int32) : Option (Except (String × sK) (Int32 × sK)) := Option.bind (if a0 < 0 then (some (0) : Option (Int32)) else (if a1 < 0 then (some (0)) else (some (1)))) (fun j1 => Option.bind (f_K_needArgument j1) (fun x5 => match x5 with | .error E9 => some (.error (E9, g0)) | .ok _ => (Option.bind (f_O_length a0 a1) (fun r8 => Option.bind (if a2 < (-1) then (some (0) : Option (Int32)) else (if r8 ≤ a2 then (some (0)) else (some (1)))) (fun j9 => Option.bind (f_K_needArgument j9) (fun x13 => match x13 with | .error E9 => some (.error (E9, g0)) | .ok _ => (Option.bind (if a2 = (-1) then (some (r8) : Option (Int32)) else (Option.bind (f_O_byteAt a0 a1 a2) (fun r20 => some (r20)))) (fun j16 => some (.ok (j16, g0))))))))))
abbrev rm_K_written : Room := { frames := 3, cells := 0, slots := 0, locals := 65 }
abbrev rx_K_written : Room := { frames := 7, cells := 1, slots := 6, locals := 110 }
set_option maxHeartbeats 4000000 in
set_option maxRecDepth 100000 in
theorem k_K_written_ok (l : Launch) (D : va_G) (A : Nat → Nat) (cc : Nat → ClassId) (g0 : sK) (a0 : Int32) (a1 : Int32) (a2 : Int32) (sz : Nat) (res : (Int32 × sK)) (hF : f_K_written g0 a0 a1 a2 = some (.ok res)) : Met l y_K_written (Cond.code y_K_written b_K_written 5 (some .int) :: wa) rm_K_written (pw D (wK A cc g0) (kK cc) [.ref (A 0), .int a0, .int a1, .int a2] sz) (va_Qi (fun r u => (r, u) = res) (bw D (wK A cc) (kK cc) (va_A (wK A cc g0) sz)) (va_A (wK A cc g0) sz)) 0 0 (va_A (wK A cc g0) sz) := by
  refine Met.ofW (cc := b_K_written) (maxL := 5) (ret := (some .int)) (by decide) rfl ?_
  intro p e s m args below meth c s₁ B hml hv
  obtain ⟨rfl, hsz, hP, hK, hD0, hN⟩ := hv
  subst hsz
  have hD := hD0.self (sz := s.heap.size)
  generalize hAe : va_A (wK A cc g0) s.heap.size = AA at hD ⊢
  have hx := B.exec
  have hb := B.bytes
  have hr := B.returns
  have hts := atoms_spec (ws := Cond.code y_K_written b_K_written 5 (some .int) :: wa) B.pre
  have hw : ∀ w ∈ wa, w.before _ s = true := fun w h => hts w (List.mem_cons_of_mem _ h)
  have hown : s.vm.findClass R_K = some m.cls := findClass_of_methodNamed B.named
  have hlocks := B.notSynchronized
  have hA : ∀ q : Nat, s.heap.size ≤ q → AA q := fun q h => by rw [← hAe]; exact Or.inr h
  have hS : va_S AA s.heap s.heap [] := va_S.rf
  have hl := lv_entry ([.ref (A 0), .int a0, .int a1, .int a2]) (n := 5) (Nat.le_of_ble_eq_true rfl)
  rw [lg_entry_eq]
  generalize (lg_sl ([.ref (A 0), .int a0, .int a1, .int a2]) ++ List.replicate (5 - (lg_sl ([.ref (A 0), .int a0, .int a1, .int a2])).length) Slot.unset).toArray = ls at hl ⊢
  have hl : lv_has ls 5 [(0, .ref (A 0)), (1, .int a0), (2, .int a1), (3, .int a2)] := hl
  unfold f_K_written at hF
  refine lv_iload_n hx hb d_K_written_0 rfl (lv_at hl 1 rfl) ?_
  obtain ⟨j1, q3, hF⟩ := Option.bind_eq_some_iff.mp hF
  have k2 : ∀ (H : Heap) (locs : List Loc) (ls : Array Slot), va_P D vwC (wK A cc g0) H → va_D AA (wK A cc g0) → va_S AA s.heap H locs → lv_has ls 5 [(1, .int a0), (2, .int a1), (3, .int a2)] → W p l e rm_K_written s m ([Value.ref (A 0), Value.int a0, Value.int a1, Value.int a2] : List Value).toArray below meth c H locs 0 0 (MQ below (va_Qi (fun r u => (r, u) = res) (bw D (wK A cc) (kK cc) AA) AA) ([Value.ref (A 0), Value.int a0, Value.int a1, Value.int a2] : List Value).toArray s 0 0 AA) (F0 m 13 ls [.int j1]) := by
    intro H locs ls hP hD hS hl
    obtain ⟨x5, e_x5, hF⟩ := Option.bind_eq_some_iff.mp hF
    rcases x5 with E6 | n7
    · cases hF
    refine va_csv (va_runS (As := [.int j1]) (rest := []) ⟨hx, hb, hml, hown, hts⟩ (k_K_needArgument_ok l j1 n7 e_x5) (va_cwS 1 hts (ga_S ww_296 ww_297 ww_1 ww_298) rfl rfl rfl (by decide +kernel) ⟨by decide, by decide⟩) (pcs_pre hN) rfl rfl hl.1 rfl (lv_room (Nat.le_of_ble_eq_true rfl)) d_K_written_13 ⟨Nat.zero_le _, Nat.zero_le _⟩).run (fun _ => ?_)
    refine lv_iload_n hx hb d_K_written_16 rfl (lv_at hl 0 rfl) ?_
    refine lv_iload_n hx hb d_K_written_17 rfl (lv_at hl 1 rfl) ?_
    obtain ⟨r8, e_r8, hF⟩ := Option.bind_eq_some_iff.mp hF
    refine vp_callSi (va_runS (As := [.int a0, .int a1]) (rest := []) ⟨hx, hb, hml, hown, hts⟩ (k_O_length l a0 a1 r8 e_r8) (va_cwS 2 hts (ga_S ww_510 ww_196 ww_16 ww_197) rfl rfl rfl (by decide +kernel) ⟨by decide, by decide⟩) (pcs_pre hN) rfl rfl hl.1 rfl (lv_room (Nat.le_of_ble_eq_true rfl)) d_K_written_18 ⟨Nat.zero_le _, Nat.zero_le _⟩).run (fun z9 hz9 => ?_)
    obtain rfl : r8 = z9 := hz9.symm
    refine lv_istore hx hb d_K_written_21 hl (by decide) (lv' := [(4, .int r8), (1, .int a0), (2, .int a1), (3, .int a2)]) rfl (fun ls hl => ?_)
    refine lv_iload_n hx hb d_K_written_23 rfl (lv_at hl 3 rfl) ?_
    refine lv_iconst (v := (-1)) hx hb d_K_written_24 (by decide) ?_
    obtain ⟨j9, q11, hF⟩ := Option.bind_eq_some_iff.mp hF
    have k10 : ∀ (H : Heap) (locs : List Loc) (ls : Array Slot), va_P D vwC (wK A cc g0) H → va_D AA (wK A cc g0) → va_S AA s.heap H locs → lv_has ls 5 [(4, .int r8), (1, .int a0), (2, .int a1), (3, .int a2)] → W p l e rm_K_written s m ([Value.ref (A 0), Value.int a0, Value.int a1, Value.int a2] : List Value).toArray below meth c H locs 0 0 (MQ below (va_Qi (fun r u => (r, u) = res) (bw D (wK A cc) (kK cc) AA) AA) ([Value.ref (A 0), Value.int a0, Value.int a1, Value.int a2] : List Value).toArray s 0 0 AA) (F0 m 39 ls [.int j9]) := by
      intro H locs ls hP hD hS hl
      obtain ⟨x13, e_x13, hF⟩ := Option.bind_eq_some_iff.mp hF
      rcases x13 with E14 | n15
      · cases hF
      refine va_csv (va_runS (As := [.int j9]) (rest := []) ⟨hx, hb, hml, hown, hts⟩ (k_K_needArgument_ok l j9 n15 e_x13) (va_cwS 1 hts (ga_S ww_296 ww_297 ww_1 ww_298) rfl rfl rfl (by decide +kernel) ⟨by decide, by decide⟩) (pcs_pre hN) rfl rfl hl.1 rfl (lv_room (Nat.le_of_ble_eq_true rfl)) d_K_written_39 ⟨Nat.zero_le _, Nat.zero_le _⟩).run (fun _ => ?_)
      refine lv_iload_n hx hb d_K_written_42 rfl (lv_at hl 3 rfl) ?_
      refine lv_iconst (v := (-1)) hx hb d_K_written_43 (by decide) ?_
      obtain ⟨j16, q18, hF⟩ := Option.bind_eq_some_iff.mp hF
      have k17 : ∀ (H : Heap) (locs : List Loc) (ls : Array Slot), va_P D vwC (wK A cc g0) H → va_D AA (wK A cc g0) → va_S AA s.heap H locs → lv_has ls 5 [] → W p l e rm_K_written s m ([Value.ref (A 0), Value.int a0, Value.int a1, Value.int a2] : List Value).toArray below meth c H locs 0 0 (MQ below (va_Qi (fun r u => (r, u) = res) (bw D (wK A cc) (kK cc) AA) AA) ([Value.ref (A 0), Value.int a0, Value.int a1, Value.int a2] : List Value).toArray s 0 0 AA) (F0 m 58 ls [.int j16]) := by
        intro H locs ls hP hD hS hl
        cases hF
        exact W.iret hx hb hr (fun t ht hW => ⟨⟨_, _, rfl, rfl, bw_end hP hK hD ht hW⟩, hS.F ht⟩) hS.2.2 d_K_written_58
      clear hF
      have hF := q18
      refine lv_icmp_ne hx hb d_K_written_44 (tgt := 52) (by decide) (fun h9 => ?_) (fun h9 => ?_)
      · have hF := (if_neg h9).symm.trans hF
        refine lv_iload_n hx hb d_K_written_52 rfl (lv_at hl 1 rfl) ?_
        refine lv_iload_n hx hb d_K_written_53 rfl (lv_at hl 2 rfl) ?_
        refine lv_iload_n hx hb d_K_written_54 rfl (lv_at hl 3 rfl) ?_
        obtain ⟨r20, e_r20, hF⟩ := Option.bind_eq_some_iff.mp hF
        refine vp_callSi (va_runS (As := [.int a0, .int a1, .int a2]) (rest := []) ⟨hx, hb, hml, hown, hts⟩ (k_O_byteAt l a0 a1 a2 r20 e_r20) (va_cwS 3 hts (ga_S ww_511 ww_204 ww_16 ww_205) rfl rfl rfl (by decide +kernel) ⟨by decide, by decide⟩) (pcs_pre hN) rfl rfl hl.1 rfl (lv_room (Nat.le_of_ble_eq_true rfl)) d_K_written_55 ⟨Nat.zero_le _, Nat.zero_le _⟩).run (fun z9 hz9 => ?_)
        obtain rfl : r20 = z9 := hz9.symm
        obtain rfl := Option.some.inj hF
        exact k17 _ _ ls hP hD hS (lv_sub hl [] rfl)
      · have hF := (if_pos h9).symm.trans hF
        refine lv_iload hx hb d_K_written_47 (lv_at hl 0 rfl) ?_
        refine lv_goto hx hb d_K_written_49 (tgt := 58) (by decide) ?_
        obtain rfl := Option.some.inj hF
        exact k17 _ _ ls hP hD hS (lv_sub hl [] rfl)
    clear hF
    have hF := q11
    refine lv_icmp_lt hx hb d_K_written_25 (tgt := 38) (by decide) (fun h9 => ?_) (fun h9 => ?_)
    · have hF := (if_pos h9).symm.trans hF
      refine lv_iconst (v := 0) hx hb d_K_written_38 (by decide) ?_
      obtain rfl := Option.some.inj hF
      exact k10 _ _ ls hP hD hS (lv_sub hl [0, 1, 2, 3] rfl)
    · have hF := (if_neg h9).symm.trans hF
      refine lv_iload_n hx hb d_K_written_28 rfl (lv_at hl 3 rfl) ?_
      refine lv_iload hx hb d_K_written_29 (lv_at hl 0 rfl) ?_
      refine lv_icmp_ge hx hb d_K_written_31 (tgt := 38) (by decide) (fun h9 => ?_) (fun h9 => ?_)
      · have hF := (if_pos h9).symm.trans hF
        refine lv_iconst (v := 0) hx hb d_K_written_38 (by decide) ?_
        obtain rfl := Option.some.inj hF
        exact k10 _ _ ls hP hD hS (lv_sub hl [0, 1, 2, 3] rfl)
      · have hF := (if_neg h9).symm.trans hF
        refine lv_iconst (v := 1) hx hb d_K_written_34 (by decide) ?_
        refine lv_goto hx hb d_K_written_35 (tgt := 39) (by decide) ?_
        obtain rfl := Option.some.inj hF
        exact k10 _ _ ls hP hD hS (lv_sub hl [0, 1, 2, 3] rfl)
  clear hF
  have hF := q3
  refine lv_if_lt hx hb d_K_written_1 (tgt := 12) (by decide) (fun h9 => ?_) (fun h9 => ?_)
  · have hF := (if_pos h9).symm.trans hF
    refine lv_iconst (v := 0) hx hb d_K_written_12 (by decide) ?_
    obtain rfl := Option.some.inj hF
    exact k2 _ _ ls hP hD hS (lv_sub hl [1, 2, 3] rfl)
  · have hF := (if_neg h9).symm.trans hF
    refine lv_iload_n hx hb d_K_written_4 rfl (lv_at hl 2 rfl) ?_
    refine lv_if_lt hx hb d_K_written_5 (tgt := 12) (by decide) (fun h9 => ?_) (fun h9 => ?_)
    · have hF := (if_pos h9).symm.trans hF
      refine lv_iconst (v := 0) hx hb d_K_written_12 (by decide) ?_
      obtain rfl := Option.some.inj hF
      exact k2 _ _ ls hP hD hS (lv_sub hl [1, 2, 3] rfl)
    · have hF := (if_neg h9).symm.trans hF
      refine lv_iconst (v := 1) hx hb d_K_written_8 (by decide) ?_
      refine lv_goto hx hb d_K_written_9 (tgt := 13) (by decide) ?_
      obtain rfl := Option.some.inj hF
      exact k2 _ _ ls hP hD hS (lv_sub hl [1, 2, 3] rfl)
set_option maxHeartbeats 4000000 in
set_option maxRecDepth 100000 in
theorem k_K_written_er (l : Launch) (hl0 : l.stackTraces = false) (D : va_G) (A : Nat → Nat) (cc : Nat → ClassId) (g0 : sK) (a0 : Int32) (a1 : Int32) (a2 : Int32) (sz : Nat) (E0 : String) (gE : sK) (hF : f_K_written g0 a0 a1 a2 = some (.error (E0, gE))) : vx_Met l y_K_written (Cond.code y_K_written b_K_written 5 (some .int) :: wa) rx_K_written (pwx D (wK A cc g0) (kK cc) [.ref (A 0), .int a0, .int a1, .int a2] sz) (va_Qi (fun _ (_ : Unit) => False) (fun _ _ => True) (va_A (wK A cc g0) sz)) (vx_X (fun u => u = gE) (fun E u t => E = E0 ∧ bw D (wK A cc) (kK cc) (va_A (wK A cc g0) sz) u t) (va_A (wK A cc g0) sz)) 1 6 (va_A (wK A cc g0) sz) := by
  refine vx_ofW (cc := b_K_written) (maxL := 5) (ret := (some .int)) (by decide) rfl ?_
  intro p e s m args below meth c s₁ B hml hout hv
  obtain ⟨⟨rfl, hsz, hP, hK, hD0, hN⟩, hX, hZ⟩ := hv
  subst hsz
  have hD := hD0.self (sz := s.heap.size)
  generalize hAe : va_A (wK A cc g0) s.heap.size = AA at hD hZ ⊢
  have hx := B.exec
  have hb := B.bytes
  have hr := B.returns
  have hts := atoms_spec (ws := Cond.code y_K_written b_K_written 5 (some .int) :: wa) B.pre
  have hw : ∀ w ∈ wa, w.before _ s = true := fun w h => hts w (List.mem_cons_of_mem _ h)
  have hown : s.vm.findClass R_K = some m.cls := findClass_of_methodNamed B.named
  have hlocks := B.notSynchronized
  have hA : ∀ q : Nat, s.heap.size ≤ q → AA q := fun q h => by rw [← hAe]; exact Or.inr h
  have hS : va_S AA s.heap s.heap [] := va_S.rf
  have hl := lv_entry ([.ref (A 0), .int a0, .int a1, .int a2]) (n := 5) (Nat.le_of_ble_eq_true rfl)
  rw [lg_entry_eq]
  generalize (lg_sl ([.ref (A 0), .int a0, .int a1, .int a2]) ++ List.replicate (5 - (lg_sl ([.ref (A 0), .int a0, .int a1, .int a2])).length) Slot.unset).toArray = ls at hl ⊢
  have hl : lv_has ls 5 [(0, .ref (A 0)), (1, .int a0), (2, .int a1), (3, .int a2)] := hl
  unfold f_K_written at hF
  refine lv_iload_n hx hb d_K_written_0 rfl (lv_at hl 1 rfl) ?_
  obtain ⟨j1, q3, hF⟩ := Option.bind_eq_some_iff.mp hF
  have k2 : ∀ (H : Heap) (locs : List Loc) (ls : Array Slot), va_P D vwC (wK A cc g0) H → va_D AA (wK A cc g0) → va_S AA s.heap H locs → lv_has ls 5 [(1, .int a0), (2, .int a1), (3, .int a2)] → W p l e rx_K_written s m ([Value.ref (A 0), Value.int a0, Value.int a1, Value.int a2] : List Value).toArray below meth c H locs 0 0 (vx_MQ below (va_Qi (fun _ (_ : Unit) => False) (fun _ _ => True) AA) (vx_X (fun u => u = gE) (fun E u t => E = E0 ∧ bw D (wK A cc) (kK cc) AA u t) AA) ([Value.ref (A 0), Value.int a0, Value.int a1, Value.int a2] : List Value).toArray s 1 6 AA) (F0 m 13 ls [.int j1]) := by
    intro H locs ls hP hD hS hl
    obtain ⟨x5, e_x5, hF⟩ := Option.bind_eq_some_iff.mp hF
    rcases x5 with E6 | n7
    · cases hF
      have hFc : ∀ q, fr (Array.size _) q → AA q := fun q h => hA q (Nat.le_trans hS.1 h)
      refine vx_callv (vx_runS (As := [.int j1]) (rest := []) ⟨hx, hb, hml, hown, hts⟩ (k_K_needArgument_er l hl0 j1 _ _ e_x5) (va_cwS 1 hts (ga_S ww_296 ww_297 ww_1 ww_298) rfl rfl rfl (by decide +kernel) ⟨by decide, by decide⟩) (pcx_pre hN hX hZ hS hA) rfl rfl hl.1 rfl (lv_room (Nat.le_of_ble_eq_true rfl)) d_K_written_13 ⟨Nat.le_of_ble_eq_true rfl, Nat.le_of_ble_eq_true rfl⟩) hS (fun q _ h => hFc q h) hFc (fun q _ h => hFc q h) (fun E ce q9 u t H1 locs ht hvm hpx hBX hz hk hS hce hcv hcl => ?_) (fun u t H1 locs _ _ hp _ _ _ _ => hp.elim)
      obtain rfl := hBX
      have hk : ∀ q : Nat, q < _ → H1[q]? = _ := fun q h => hk q h (fun z => Nat.lt_irrefl _ (Nat.lt_of_lt_of_le h z))
      have hP := xt_P hP hk
      exact vx_out (fun x h => (hout x h).elim) hlocks hce hcv hcl (fun t9 ht9 ha9 => ⟨_, rfl, ⟨rfl, by rw [ht9]; exact hP, va_K.moved ha9 hK, hD⟩, hS.F ht9⟩) hS.2.2 (Nat.le_of_ble_eq_true rfl) (Nat.le_of_ble_eq_true rfl)
    refine va_csv (va_runS (As := [.int j1]) (rest := []) ⟨hx, hb, hml, hown, hts⟩ (k_K_needArgument_ok l j1 n7 e_x5) (va_cwS 1 hts (ga_S ww_296 ww_297 ww_1 ww_298) rfl rfl rfl (by decide +kernel) ⟨by decide, by decide⟩) (pcs_pre hN) rfl rfl hl.1 rfl (lv_room (Nat.le_of_ble_eq_true rfl)) d_K_written_13 ⟨Nat.zero_le _, Nat.zero_le _⟩).run (fun _ => ?_)
    refine lv_iload_n hx hb d_K_written_16 rfl (lv_at hl 0 rfl) ?_
    refine lv_iload_n hx hb d_K_written_17 rfl (lv_at hl 1 rfl) ?_
    obtain ⟨r8, e_r8, hF⟩ := Option.bind_eq_some_iff.mp hF
    refine vp_callSi (va_runS (As := [.int a0, .int a1]) (rest := []) ⟨hx, hb, hml, hown, hts⟩ (k_O_length l a0 a1 r8 e_r8) (va_cwS 2 hts (ga_S ww_510 ww_196 ww_16 ww_197) rfl rfl rfl (by decide +kernel) ⟨by decide, by decide⟩) (pcs_pre hN) rfl rfl hl.1 rfl (lv_room (Nat.le_of_ble_eq_true rfl)) d_K_written_18 ⟨Nat.zero_le _, Nat.zero_le _⟩).run (fun z9 hz9 => ?_)
    obtain rfl : r8 = z9 := hz9.symm
    refine lv_istore hx hb d_K_written_21 hl (by decide) (lv' := [(4, .int r8), (1, .int a0), (2, .int a1), (3, .int a2)]) rfl (fun ls hl => ?_)
    refine lv_iload_n hx hb d_K_written_23 rfl (lv_at hl 3 rfl) ?_
    refine lv_iconst (v := (-1)) hx hb d_K_written_24 (by decide) ?_
    obtain ⟨j9, q11, hF⟩ := Option.bind_eq_some_iff.mp hF
    have k10 : ∀ (H : Heap) (locs : List Loc) (ls : Array Slot), va_P D vwC (wK A cc g0) H → va_D AA (wK A cc g0) → va_S AA s.heap H locs → lv_has ls 5 [(4, .int r8), (1, .int a0), (2, .int a1), (3, .int a2)] → W p l e rx_K_written s m ([Value.ref (A 0), Value.int a0, Value.int a1, Value.int a2] : List Value).toArray below meth c H locs 0 0 (vx_MQ below (va_Qi (fun _ (_ : Unit) => False) (fun _ _ => True) AA) (vx_X (fun u => u = gE) (fun E u t => E = E0 ∧ bw D (wK A cc) (kK cc) AA u t) AA) ([Value.ref (A 0), Value.int a0, Value.int a1, Value.int a2] : List Value).toArray s 1 6 AA) (F0 m 39 ls [.int j9]) := by
      intro H locs ls hP hD hS hl
      obtain ⟨x13, e_x13, hF⟩ := Option.bind_eq_some_iff.mp hF
      rcases x13 with E14 | n15
      · cases hF
        have hFc : ∀ q, fr (Array.size _) q → AA q := fun q h => hA q (Nat.le_trans hS.1 h)
        refine vx_callv (vx_runS (As := [.int j9]) (rest := []) ⟨hx, hb, hml, hown, hts⟩ (k_K_needArgument_er l hl0 j9 _ _ e_x13) (va_cwS 1 hts (ga_S ww_296 ww_297 ww_1 ww_298) rfl rfl rfl (by decide +kernel) ⟨by decide, by decide⟩) (pcx_pre hN hX hZ hS hA) rfl rfl hl.1 rfl (lv_room (Nat.le_of_ble_eq_true rfl)) d_K_written_39 ⟨Nat.le_of_ble_eq_true rfl, Nat.le_of_ble_eq_true rfl⟩) hS (fun q _ h => hFc q h) hFc (fun q _ h => hFc q h) (fun E ce q9 u t H1 locs ht hvm hpx hBX hz hk hS hce hcv hcl => ?_) (fun u t H1 locs _ _ hp _ _ _ _ => hp.elim)
        obtain rfl := hBX
        have hk : ∀ q : Nat, q < _ → H1[q]? = _ := fun q h => hk q h (fun z => Nat.lt_irrefl _ (Nat.lt_of_lt_of_le h z))
        have hP := xt_P hP hk
        exact vx_out (fun x h => (hout x h).elim) hlocks hce hcv hcl (fun t9 ht9 ha9 => ⟨_, rfl, ⟨rfl, by rw [ht9]; exact hP, va_K.moved ha9 hK, hD⟩, hS.F ht9⟩) hS.2.2 (Nat.le_of_ble_eq_true rfl) (Nat.le_of_ble_eq_true rfl)
      refine va_csv (va_runS (As := [.int j9]) (rest := []) ⟨hx, hb, hml, hown, hts⟩ (k_K_needArgument_ok l j9 n15 e_x13) (va_cwS 1 hts (ga_S ww_296 ww_297 ww_1 ww_298) rfl rfl rfl (by decide +kernel) ⟨by decide, by decide⟩) (pcs_pre hN) rfl rfl hl.1 rfl (lv_room (Nat.le_of_ble_eq_true rfl)) d_K_written_39 ⟨Nat.zero_le _, Nat.zero_le _⟩).run (fun _ => ?_)
      refine lv_iload_n hx hb d_K_written_42 rfl (lv_at hl 3 rfl) ?_
      refine lv_iconst (v := (-1)) hx hb d_K_written_43 (by decide) ?_
      obtain ⟨j16, q18, hF⟩ := Option.bind_eq_some_iff.mp hF
      have k17 : ∀ (H : Heap) (locs : List Loc) (ls : Array Slot), va_P D vwC (wK A cc g0) H → va_D AA (wK A cc g0) → va_S AA s.heap H locs → lv_has ls 5 [] → W p l e rx_K_written s m ([Value.ref (A 0), Value.int a0, Value.int a1, Value.int a2] : List Value).toArray below meth c H locs 0 0 (vx_MQ below (va_Qi (fun _ (_ : Unit) => False) (fun _ _ => True) AA) (vx_X (fun u => u = gE) (fun E u t => E = E0 ∧ bw D (wK A cc) (kK cc) AA u t) AA) ([Value.ref (A 0), Value.int a0, Value.int a1, Value.int a2] : List Value).toArray s 1 6 AA) (F0 m 58 ls [.int j16]) := by
        intro H locs ls hP hD hS hl
        cases hF
      clear hF
      have hF := q18
      refine lv_icmp_ne hx hb d_K_written_44 (tgt := 52) (by decide) (fun h9 => ?_) (fun h9 => ?_)
      · have hF := (if_neg h9).symm.trans hF
        refine lv_iload_n hx hb d_K_written_52 rfl (lv_at hl 1 rfl) ?_
        refine lv_iload_n hx hb d_K_written_53 rfl (lv_at hl 2 rfl) ?_
        refine lv_iload_n hx hb d_K_written_54 rfl (lv_at hl 3 rfl) ?_
        obtain ⟨r20, e_r20, hF⟩ := Option.bind_eq_some_iff.mp hF
        refine vp_callSi (va_runS (As := [.int a0, .int a1, .int a2]) (rest := []) ⟨hx, hb, hml, hown, hts⟩ (k_O_byteAt l a0 a1 a2 r20 e_r20) (va_cwS 3 hts (ga_S ww_511 ww_204 ww_16 ww_205) rfl rfl rfl (by decide +kernel) ⟨by decide, by decide⟩) (pcs_pre hN) rfl rfl hl.1 rfl (lv_room (Nat.le_of_ble_eq_true rfl)) d_K_written_55 ⟨Nat.zero_le _, Nat.zero_le _⟩).run (fun z9 hz9 => ?_)
        obtain rfl : r20 = z9 := hz9.symm
        obtain rfl := Option.some.inj hF
        exact k17 _ _ ls hP hD hS (lv_sub hl [] rfl)
      · have hF := (if_pos h9).symm.trans hF
        refine lv_iload hx hb d_K_written_47 (lv_at hl 0 rfl) ?_
        refine lv_goto hx hb d_K_written_49 (tgt := 58) (by decide) ?_
        obtain rfl := Option.some.inj hF
        exact k17 _ _ ls hP hD hS (lv_sub hl [] rfl)
    clear hF
    have hF := q11
    refine lv_icmp_lt hx hb d_K_written_25 (tgt := 38) (by decide) (fun h9 => ?_) (fun h9 => ?_)
    · have hF := (if_pos h9).symm.trans hF
      refine lv_iconst (v := 0) hx hb d_K_written_38 (by decide) ?_
      obtain rfl := Option.some.inj hF
      exact k10 _ _ ls hP hD hS (lv_sub hl [0, 1, 2, 3] rfl)
    · have hF := (if_neg h9).symm.trans hF
      refine lv_iload_n hx hb d_K_written_28 rfl (lv_at hl 3 rfl) ?_
      refine lv_iload hx hb d_K_written_29 (lv_at hl 0 rfl) ?_
      refine lv_icmp_ge hx hb d_K_written_31 (tgt := 38) (by decide) (fun h9 => ?_) (fun h9 => ?_)
      · have hF := (if_pos h9).symm.trans hF
        refine lv_iconst (v := 0) hx hb d_K_written_38 (by decide) ?_
        obtain rfl := Option.some.inj hF
        exact k10 _ _ ls hP hD hS (lv_sub hl [0, 1, 2, 3] rfl)
      · have hF := (if_neg h9).symm.trans hF
        refine lv_iconst (v := 1) hx hb d_K_written_34 (by decide) ?_
        refine lv_goto hx hb d_K_written_35 (tgt := 39) (by decide) ?_
        obtain rfl := Option.some.inj hF
        exact k10 _ _ ls hP hD hS (lv_sub hl [0, 1, 2, 3] rfl)
  clear hF
  have hF := q3
  refine lv_if_lt hx hb d_K_written_1 (tgt := 12) (by decide) (fun h9 => ?_) (fun h9 => ?_)
  · have hF := (if_pos h9).symm.trans hF
    refine lv_iconst (v := 0) hx hb d_K_written_12 (by decide) ?_
    obtain rfl := Option.some.inj hF
    exact k2 _ _ ls hP hD hS (lv_sub hl [1, 2, 3] rfl)
  · have hF := (if_neg h9).symm.trans hF
    refine lv_iload_n hx hb d_K_written_4 rfl (lv_at hl 2 rfl) ?_
    refine lv_if_lt hx hb d_K_written_5 (tgt := 12) (by decide) (fun h9 => ?_) (fun h9 => ?_)
    · have hF := (if_pos h9).symm.trans hF
      refine lv_iconst (v := 0) hx hb d_K_written_12 (by decide) ?_
      obtain rfl := Option.some.inj hF
      exact k2 _ _ ls hP hD hS (lv_sub hl [1, 2, 3] rfl)
    · have hF := (if_neg h9).symm.trans hF
      refine lv_iconst (v := 1) hx hb d_K_written_8 (by decide) ?_
      refine lv_goto hx hb d_K_written_9 (tgt := 13) (by decide) ?_
      obtain rfl := Option.some.inj hF
      exact k2 _ _ ls hP hD hS (lv_sub hl [1, 2, 3] rfl)
def f_K_type (g0 : sK) (a0 : Int32) : Option (Except (String × sK) (Int32 × sK)) := Option.bind (if a0 < 0 then (some (0) : Option (Int32)) else (if 255 < a0 then (some (0)) else (some (1)))) (fun j1 => Option.bind (f_K_needArgument j1) (fun x5 => match x5 with | .error E9 => some (.error (E9, g0)) | .ok _ => (Option.bind (f_T_isFull g0 ) (fun t10 => match t10 with | (r9, g8) => (if r9 = 0 then (Option.bind (f_T_put g8 a0) (fun t13 => match t13 with | (r12, g11) => (some (.ok (r12, g11))))) else (some (.error ("java/lang/UnsupportedOperationException", g8))))))))
abbrev rm_K_type : Room := { frames := 1, cells := 0, slots := 0, locals := 21 }
abbrev rx_K_type : Room := { frames := 7, cells := 1, slots := 6, locals := 110 }
set_option maxHeartbeats 4000000 in
set_option maxRecDepth 100000 in
theorem k_K_type_ok (l : Launch) (D : va_G) (A : Nat → Nat) (cc : Nat → ClassId) (g0 : sK) (a0 : Int32) (sz : Nat) (res : (Int32 × sK)) (hF : f_K_type g0 a0 = some (.ok res)) : Met l y_K_type (Cond.code y_K_type b_K_type 2 (some .int) :: wa) rm_K_type (pw D (wK A cc g0) (kK cc) [.ref (A 0), .int a0] sz) (va_Qi (fun r u => (r, u) = res) (bw D (wK A cc) (kK cc) (va_A (wK A cc g0) sz)) (va_A (wK A cc g0) sz)) 0 0 (va_A (wK A cc g0) sz) := by
  refine Met.ofW (cc := b_K_type) (maxL := 2) (ret := (some .int)) (by decide) rfl ?_
  intro p e s m args below meth c s₁ B hml hv
  obtain ⟨rfl, hsz, hP, hK, hD0, hN⟩ := hv
  subst hsz
  have hD := hD0.self (sz := s.heap.size)
  generalize hAe : va_A (wK A cc g0) s.heap.size = AA at hD ⊢
  have hx := B.exec
  have hb := B.bytes
  have hr := B.returns
  have hts := atoms_spec (ws := Cond.code y_K_type b_K_type 2 (some .int) :: wa) B.pre
  have hw : ∀ w ∈ wa, w.before _ s = true := fun w h => hts w (List.mem_cons_of_mem _ h)
  have hown : s.vm.findClass R_K = some m.cls := findClass_of_methodNamed B.named
  have hlocks := B.notSynchronized
  have hA : ∀ q : Nat, s.heap.size ≤ q → AA q := fun q h => by rw [← hAe]; exact Or.inr h
  have hS : va_S AA s.heap s.heap [] := va_S.rf
  have hl := lv_entry ([.ref (A 0), .int a0]) (n := 2) (Nat.le_of_ble_eq_true rfl)
  rw [lg_entry_eq]
  generalize (lg_sl ([.ref (A 0), .int a0]) ++ List.replicate (2 - (lg_sl ([.ref (A 0), .int a0])).length) Slot.unset).toArray = ls at hl ⊢
  have hl : lv_has ls 2 [(0, .ref (A 0)), (1, .int a0)] := hl
  unfold f_K_type at hF
  refine lv_iload_n hx hb d_K_type_0 rfl (lv_at hl 1 rfl) ?_
  obtain ⟨j1, q3, hF⟩ := Option.bind_eq_some_iff.mp hF
  have k2 : ∀ (H : Heap) (locs : List Loc) (ls : Array Slot), va_P D vwC (wK A cc g0) H → va_D AA (wK A cc g0) → va_S AA s.heap H locs → lv_has ls 2 [(0, .ref (A 0)), (1, .int a0)] → W p l e rm_K_type s m ([Value.ref (A 0), Value.int a0] : List Value).toArray below meth c H locs 0 0 (MQ below (va_Qi (fun r u => (r, u) = res) (bw D (wK A cc) (kK cc) AA) AA) ([Value.ref (A 0), Value.int a0] : List Value).toArray s 0 0 AA) (F0 m 16 ls [.int j1]) := by
    intro H locs ls hP hD hS hl
    obtain ⟨x5, e_x5, hF⟩ := Option.bind_eq_some_iff.mp hF
    rcases x5 with E6 | n7
    · cases hF
    refine va_csv (va_runS (As := [.int j1]) (rest := []) ⟨hx, hb, hml, hown, hts⟩ (k_K_needArgument_ok l j1 n7 e_x5) (va_cwS 1 hts (ga_S ww_296 ww_297 ww_1 ww_298) rfl rfl rfl (by decide +kernel) ⟨by decide, by decide⟩) (pcs_pre hN) rfl rfl hl.1 rfl (lv_room (Nat.le_of_ble_eq_true rfl)) d_K_type_16 ⟨Nat.zero_le _, Nat.zero_le _⟩).run (fun _ => ?_)
    refine lv_aload_n hx hb d_K_type_19 rfl (lv_at hl 0 rfl) ?_
    refine va_get (D := D) (ci := 2) (v := .ref (A 8)) (C := R_K) (T := T_K) (N := 5) hx hb hts in_K hown hK hP 0 rfl rfl 3 (by decide) (hw _ ww_65) (fun _ h9 => h9) rfl d_K_type_20 ?_
    obtain ⟨⟨r9, g8⟩, e_g8, hF⟩ := Option.bind_eq_some_iff.mp hF
    have hFc := va_free (wc := wK A cc g0) hD hS hA [0, 1, 2, 3, 4, 5, 6, 7, 8, 9] rfl
    refine va_calli (va_runV (As := []) (rest := []) ⟨hx, hb, hml, hown, hts⟩ (k_T_isFull l D A cc g0  _ (r9, g8) e_g8) (cwV 0 hts (ga_V ww_519 ww_520 ww_521 ww_3 ww_522) rfl rfl rfl (by decide +kernel) ⟨by decide, by decide⟩) (pw_pre (q0 := 8) (ci := 1) hP hK hD hN rfl rfl) rfl rfl hl.1 rfl (lv_room (Nat.le_of_ble_eq_true rfl)) d_K_type_23 ⟨Nat.zero_le _, Nat.zero_le _⟩) hS (fun q _ h => hFc q h) hFc (fun r9 u9 t H locs ht hvm hp hB hz1 hk1 hS => ?_)
    obtain ⟨rfl, rfl⟩ := Prod.mk.inj hp.symm
    obtain ⟨hP, hD⟩ := bw_back hB ht hFc
    refine lv_if_eq hx hb d_K_type_26 (tgt := 37) (by decide) (fun h9 => ?_) (fun h9 => ?_)
    · have hF := (if_pos h9).symm.trans hF
      refine lv_aload_n hx hb d_K_type_37 rfl (lv_at hl 0 rfl) ?_
      refine va_get (D := D) (ci := 2) (v := .ref (A 8)) (C := R_K) (T := T_K) (N := 5) hx hb hts in_K hown hK hP 0 rfl rfl 3 (by decide) (hw _ ww_65) (fun _ h9 => h9) rfl d_K_type_38 ?_
      refine lv_iload_n hx hb d_K_type_41 rfl (lv_at hl 1 rfl) ?_
      obtain ⟨⟨r12, g11⟩, e_g11, hF⟩ := Option.bind_eq_some_iff.mp hF
      have hFc := va_free (wc := wK A cc g8) hD hS hA [0, 1, 2, 3, 4, 5, 6, 7, 8, 9] rfl
      refine va_calli (va_runV (As := [.int a0]) (rest := []) ⟨hx, hb, hml, hown, hts⟩ (k_T_put l D A cc g8 a0 _ (r12, g11) e_g11) (cwV 1 hts (ga_V ww_523 ww_524 ww_525 ww_3 ww_526) rfl rfl rfl (by decide +kernel) ⟨by decide, by decide⟩) (pw_pre (q0 := 8) (ci := 1) hP hK hD hN rfl rfl) rfl rfl hl.1 rfl (lv_room (Nat.le_of_ble_eq_true rfl)) d_K_type_42 ⟨Nat.zero_le _, Nat.zero_le _⟩) hS (fun q _ h => hFc q h) hFc (fun r9 u9 t H locs ht hvm hp hB hz1 hk1 hS => ?_)
      obtain ⟨rfl, rfl⟩ := Prod.mk.inj hp.symm
      obtain ⟨hP, hD⟩ := bw_back hB ht hFc
      cases hF
      exact W.iret hx hb hr (fun t ht hW => ⟨⟨_, _, rfl, rfl, bw_end hP hK hD ht hW⟩, hS.F ht⟩) hS.2.2 d_K_type_45
    · have hF := (if_neg h9).symm.trans hF
      cases hF
  clear hF
  have hF := q3
  refine lv_if_lt hx hb d_K_type_1 (tgt := 15) (by decide) (fun h9 => ?_) (fun h9 => ?_)
  · have hF := (if_pos h9).symm.trans hF
    refine lv_iconst (v := 0) hx hb d_K_type_15 (by decide) ?_
    obtain rfl := Option.some.inj hF
    exact k2 _ _ ls hP hD hS (lv_sub hl [0, 1] rfl)
  · have hF := (if_neg h9).symm.trans hF
    refine lv_iload_n hx hb d_K_type_4 rfl (lv_at hl 1 rfl) ?_
    refine lv_sipush (v := 255) hx hb d_K_type_5 (by decide) ?_
    refine lv_icmp_gt hx hb d_K_type_8 (tgt := 15) (by decide) (fun h9 => ?_) (fun h9 => ?_)
    · have hF := (if_pos h9).symm.trans hF
      refine lv_iconst (v := 0) hx hb d_K_type_15 (by decide) ?_
      obtain rfl := Option.some.inj hF
      exact k2 _ _ ls hP hD hS (lv_sub hl [0, 1] rfl)
    · have hF := (if_neg h9).symm.trans hF
      refine lv_iconst (v := 1) hx hb d_K_type_11 (by decide) ?_
      refine lv_goto hx hb d_K_type_12 (tgt := 16) (by decide) ?_
      obtain rfl := Option.some.inj hF
      exact k2 _ _ ls hP hD hS (lv_sub hl [0, 1] rfl)
set_option maxHeartbeats 4000000 in
set_option maxRecDepth 100000 in
theorem k_K_type_er (l : Launch) (hl0 : l.stackTraces = false) (D : va_G) (A : Nat → Nat) (cc : Nat → ClassId) (g0 : sK) (a0 : Int32) (sz : Nat) (E0 : String) (gE : sK) (hF : f_K_type g0 a0 = some (.error (E0, gE))) : vx_Met l y_K_type (Cond.code y_K_type b_K_type 2 (some .int) :: wa) rx_K_type (pwx D (wK A cc g0) (kK cc) [.ref (A 0), .int a0] sz) (va_Qi (fun _ (_ : Unit) => False) (fun _ _ => True) (va_A (wK A cc g0) sz)) (vx_X (fun u => u = gE) (fun E u t => E = E0 ∧ bw D (wK A cc) (kK cc) (va_A (wK A cc g0) sz) u t) (va_A (wK A cc g0) sz)) 1 6 (va_A (wK A cc g0) sz) := by
  refine vx_ofW (cc := b_K_type) (maxL := 2) (ret := (some .int)) (by decide) rfl ?_
  intro p e s m args below meth c s₁ B hml hout hv
  obtain ⟨⟨rfl, hsz, hP, hK, hD0, hN⟩, hX, hZ⟩ := hv
  subst hsz
  have hD := hD0.self (sz := s.heap.size)
  generalize hAe : va_A (wK A cc g0) s.heap.size = AA at hD hZ ⊢
  have hx := B.exec
  have hb := B.bytes
  have hr := B.returns
  have hts := atoms_spec (ws := Cond.code y_K_type b_K_type 2 (some .int) :: wa) B.pre
  have hw : ∀ w ∈ wa, w.before _ s = true := fun w h => hts w (List.mem_cons_of_mem _ h)
  have hown : s.vm.findClass R_K = some m.cls := findClass_of_methodNamed B.named
  have hlocks := B.notSynchronized
  have hA : ∀ q : Nat, s.heap.size ≤ q → AA q := fun q h => by rw [← hAe]; exact Or.inr h
  have hS : va_S AA s.heap s.heap [] := va_S.rf
  have hl := lv_entry ([.ref (A 0), .int a0]) (n := 2) (Nat.le_of_ble_eq_true rfl)
  rw [lg_entry_eq]
  generalize (lg_sl ([.ref (A 0), .int a0]) ++ List.replicate (2 - (lg_sl ([.ref (A 0), .int a0])).length) Slot.unset).toArray = ls at hl ⊢
  have hl : lv_has ls 2 [(0, .ref (A 0)), (1, .int a0)] := hl
  unfold f_K_type at hF
  refine lv_iload_n hx hb d_K_type_0 rfl (lv_at hl 1 rfl) ?_
  obtain ⟨j1, q3, hF⟩ := Option.bind_eq_some_iff.mp hF
  have k2 : ∀ (H : Heap) (locs : List Loc) (ls : Array Slot), va_P D vwC (wK A cc g0) H → va_D AA (wK A cc g0) → va_S AA s.heap H locs → lv_has ls 2 [(0, .ref (A 0)), (1, .int a0)] → W p l e rx_K_type s m ([Value.ref (A 0), Value.int a0] : List Value).toArray below meth c H locs 0 0 (vx_MQ below (va_Qi (fun _ (_ : Unit) => False) (fun _ _ => True) AA) (vx_X (fun u => u = gE) (fun E u t => E = E0 ∧ bw D (wK A cc) (kK cc) AA u t) AA) ([Value.ref (A 0), Value.int a0] : List Value).toArray s 1 6 AA) (F0 m 16 ls [.int j1]) := by
    intro H locs ls hP hD hS hl
    obtain ⟨x5, e_x5, hF⟩ := Option.bind_eq_some_iff.mp hF
    rcases x5 with E6 | n7
    · cases hF
      have hFc : ∀ q, fr (Array.size _) q → AA q := fun q h => hA q (Nat.le_trans hS.1 h)
      refine vx_callv (vx_runS (As := [.int j1]) (rest := []) ⟨hx, hb, hml, hown, hts⟩ (k_K_needArgument_er l hl0 j1 _ _ e_x5) (va_cwS 1 hts (ga_S ww_296 ww_297 ww_1 ww_298) rfl rfl rfl (by decide +kernel) ⟨by decide, by decide⟩) (pcx_pre hN hX hZ hS hA) rfl rfl hl.1 rfl (lv_room (Nat.le_of_ble_eq_true rfl)) d_K_type_16 ⟨Nat.le_of_ble_eq_true rfl, Nat.le_of_ble_eq_true rfl⟩) hS (fun q _ h => hFc q h) hFc (fun q _ h => hFc q h) (fun E ce q9 u t H1 locs ht hvm hpx hBX hz hk hS hce hcv hcl => ?_) (fun u t H1 locs _ _ hp _ _ _ _ => hp.elim)
      obtain rfl := hBX
      have hk : ∀ q : Nat, q < _ → H1[q]? = _ := fun q h => hk q h (fun z => Nat.lt_irrefl _ (Nat.lt_of_lt_of_le h z))
      have hP := xt_P hP hk
      exact vx_out (fun x h => (hout x h).elim) hlocks hce hcv hcl (fun t9 ht9 ha9 => ⟨_, rfl, ⟨rfl, by rw [ht9]; exact hP, va_K.moved ha9 hK, hD⟩, hS.F ht9⟩) hS.2.2 (Nat.le_of_ble_eq_true rfl) (Nat.le_of_ble_eq_true rfl)
    refine va_csv (va_runS (As := [.int j1]) (rest := []) ⟨hx, hb, hml, hown, hts⟩ (k_K_needArgument_ok l j1 n7 e_x5) (va_cwS 1 hts (ga_S ww_296 ww_297 ww_1 ww_298) rfl rfl rfl (by decide +kernel) ⟨by decide, by decide⟩) (pcs_pre hN) rfl rfl hl.1 rfl (lv_room (Nat.le_of_ble_eq_true rfl)) d_K_type_16 ⟨Nat.zero_le _, Nat.zero_le _⟩).run (fun _ => ?_)
    refine lv_aload_n hx hb d_K_type_19 rfl (lv_at hl 0 rfl) ?_
    refine va_get (D := D) (ci := 2) (v := .ref (A 8)) (C := R_K) (T := T_K) (N := 5) hx hb hts in_K hown hK hP 0 rfl rfl 3 (by decide) (hw _ ww_65) (fun _ h9 => h9) rfl d_K_type_20 ?_
    obtain ⟨⟨r9, g8⟩, e_g8, hF⟩ := Option.bind_eq_some_iff.mp hF
    have hFc := va_free (wc := wK A cc g0) hD hS hA [0, 1, 2, 3, 4, 5, 6, 7, 8, 9] rfl
    refine va_calli (va_runV (As := []) (rest := []) ⟨hx, hb, hml, hown, hts⟩ (k_T_isFull l D A cc g0  _ (r9, g8) e_g8) (cwV 0 hts (ga_V ww_519 ww_520 ww_521 ww_3 ww_522) rfl rfl rfl (by decide +kernel) ⟨by decide, by decide⟩) (pw_pre (q0 := 8) (ci := 1) hP hK hD hN rfl rfl) rfl rfl hl.1 rfl (lv_room (Nat.le_of_ble_eq_true rfl)) d_K_type_23 ⟨Nat.zero_le _, Nat.zero_le _⟩) hS (fun q _ h => hFc q h) hFc (fun r9 u9 t H locs ht hvm hp hB hz1 hk1 hS => ?_)
    obtain ⟨rfl, rfl⟩ := Prod.mk.inj hp.symm
    obtain ⟨hP, hD⟩ := bw_back hB ht hFc
    refine lv_if_eq hx hb d_K_type_26 (tgt := 37) (by decide) (fun h9 => ?_) (fun h9 => ?_)
    · have hF := (if_pos h9).symm.trans hF
      refine lv_aload_n hx hb d_K_type_37 rfl (lv_at hl 0 rfl) ?_
      refine va_get (D := D) (ci := 2) (v := .ref (A 8)) (C := R_K) (T := T_K) (N := 5) hx hb hts in_K hown hK hP 0 rfl rfl 3 (by decide) (hw _ ww_65) (fun _ h9 => h9) rfl d_K_type_38 ?_
      refine lv_iload_n hx hb d_K_type_41 rfl (lv_at hl 1 rfl) ?_
      obtain ⟨⟨r12, g11⟩, e_g11, hF⟩ := Option.bind_eq_some_iff.mp hF
      have hFc := va_free (wc := wK A cc g8) hD hS hA [0, 1, 2, 3, 4, 5, 6, 7, 8, 9] rfl
      refine va_calli (va_runV (As := [.int a0]) (rest := []) ⟨hx, hb, hml, hown, hts⟩ (k_T_put l D A cc g8 a0 _ (r12, g11) e_g11) (cwV 1 hts (ga_V ww_523 ww_524 ww_525 ww_3 ww_526) rfl rfl rfl (by decide +kernel) ⟨by decide, by decide⟩) (pw_pre (q0 := 8) (ci := 1) hP hK hD hN rfl rfl) rfl rfl hl.1 rfl (lv_room (Nat.le_of_ble_eq_true rfl)) d_K_type_42 ⟨Nat.zero_le _, Nat.zero_le _⟩) hS (fun q _ h => hFc q h) hFc (fun r9 u9 t H locs ht hvm hp hB hz1 hk1 hS => ?_)
      obtain ⟨rfl, rfl⟩ := Prod.mk.inj hp.symm
      obtain ⟨hP, hD⟩ := bw_back hB ht hFc
      cases hF
    · have hF := (if_neg h9).symm.trans hF
      cases hF
      exact vx_throw0 (cls := "java/lang/UnsupportedOperationException") (names := ["java/lang/RuntimeException", "java/lang/Exception"]) (ik := 114) (ic := 116) (A := AA) hx hb hl0 hown (by decide) (by decide) (hw _ ww_427) (hw _ ww_15) (xt_hat hw hX xg_UnsupportedOperationException xn_UnsupportedOperationException) xo_UnsupportedOperationException hZ.1 hZ.2 hS (hl.1.trans hml.symm) d_K_type_29 d_K_type_32 d_K_type_33 d_K_type_36 (fun x h => (hout x h).elim) (Nat.le_of_ble_eq_true rfl) (Nat.le_of_ble_eq_true rfl) (Nat.le_of_ble_eq_true rfl) (Nat.le_of_ble_eq_true rfl) hlocks (fun t ha hz hk => ⟨_, rfl, ⟨rfl, xt_bw hP hK hD hk ha⟩, xt_F hS hz hk⟩) hS.2.2 (Nat.le_of_ble_eq_true rfl) (Nat.le_of_ble_eq_true rfl)
  clear hF
  have hF := q3
  refine lv_if_lt hx hb d_K_type_1 (tgt := 15) (by decide) (fun h9 => ?_) (fun h9 => ?_)
  · have hF := (if_pos h9).symm.trans hF
    refine lv_iconst (v := 0) hx hb d_K_type_15 (by decide) ?_
    obtain rfl := Option.some.inj hF
    exact k2 _ _ ls hP hD hS (lv_sub hl [0, 1] rfl)
  · have hF := (if_neg h9).symm.trans hF
    refine lv_iload_n hx hb d_K_type_4 rfl (lv_at hl 1 rfl) ?_
    refine lv_sipush (v := 255) hx hb d_K_type_5 (by decide) ?_
    refine lv_icmp_gt hx hb d_K_type_8 (tgt := 15) (by decide) (fun h9 => ?_) (fun h9 => ?_)
    · have hF := (if_pos h9).symm.trans hF
      refine lv_iconst (v := 0) hx hb d_K_type_15 (by decide) ?_
      obtain rfl := Option.some.inj hF
      exact k2 _ _ ls hP hD hS (lv_sub hl [0, 1] rfl)
    · have hF := (if_neg h9).symm.trans hF
      refine lv_iconst (v := 1) hx hb d_K_type_11 (by decide) ?_
      refine lv_goto hx hb d_K_type_12 (tgt := 16) (by decide) ?_
      obtain rfl := Option.some.inj hF
      exact k2 _ _ ls hP hD hS (lv_sub hl [0, 1] rfl)
