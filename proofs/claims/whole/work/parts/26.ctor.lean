/-! Constructors. -/
theorem oi_l {own : String} {i : Nat} {args : Array Value} {s : State} (h : (Cond.methodLink own i ({ cls := "java/lang/Object", name := "<init>", desc := "()V" } : Jvm.MethodName)).before args s = true) : (Cond.methodLink own i Lib.objectInit).before args s = true := h
theorem oi_c : Cond.code Lib.objectInit ⟨#[0xb1]⟩ 1 none ∈ wa := wa_1 24 (by decide +kernel) rfl
abbrev sA : Type := (Nat → Nat) × (Nat → ClassId)
abbrev vI (A : Nat → Nat) (cc : Nat → ClassId) : va_W := [(A 0, .inr (0, [.ref (A 1), .ref (A 2), .ref (A 3), .ref (A 4), .int 0])), (A 1, .inl (cc 1, 8, .inr (.inl (fun _ => 0)))), (A 2, .inl (cc 2, 8, .inr (.inl (fun _ => 0)))), (A 3, .inl (cc 3, 8, .inl (fun _ => 0))), (A 4, .inl (cc 4, 8, .inl (fun _ => 0)))]
abbrev hI (cc : Nat → ClassId) : List (ClassId × FieldType) := [(cc 1, .long), (cc 2, .long), (cc 3, .int), (cc 4, .int)]
abbrev vT (A : Nat → Nat) (cc : Nat → ClassId) : va_W := [(A 0, .inr (1, [.ref (A 1), .int 0])), (A 1, .inl (cc 1, 20, .inl (fun _ => 0)))]
abbrev hT (cc : Nat → ClassId) : List (ClassId × FieldType) := [(cc 1, .int)]
def zK : sK := ((fun _ => 0), (fun _ => 0), 0, (fun _ => 0), (fun _ => 0), (fun _ => 0), (fun _ => 0), 0, (fun _ => 0), 0)
def zM : sM := (0, (fun _ => 0), (fun _ => 0), 0, 0, (fun _ => 0), (fun _ => 0), (fun _ => 0), (fun _ => 0), 0, (fun _ => 0), 0, (fun _ => 0))
def bi (D : va_G) (Wf : (Nat → Nat) → (Nat → ClassId) → va_W) (Kf : (Nat → ClassId) → List (ClassId × FieldType)) (AA : Nat → Prop) : sA → State → Prop := fun u t => va_P D vwC (Wf u.1 u.2) t.heap ∧ va_K D vwC (Kf u.2) t ∧ va_D AA (Wf u.1 u.2)
theorem pw_preS {s : State} {H : Heap} {D : va_G} {W : va_W} {K : List (ClassId × FieldType)} {AA : Nat → Prop} {As : List Value} (hP : va_P D vwC W H) (hK : va_K D vwC K s) (hD : va_D AA W) (hN : nw s) : PreS s H (pw D W K As H.size) As :=
  ⟨pw_blind, fun U hU hW => ⟨rfl, by rw [hU], by rw [hU]; exact hP, va_K.moved hW.alike hK, hD.weaken (fun _ _ _ _ => trivial), nw_warm hW hN⟩⟩
abbrev rm_I_init : Room := { frames := 1, cells := 4, slots := 32, locals := 20 }
set_option maxHeartbeats 4000000 in
set_option maxRecDepth 100000 in
theorem k_I_init (l : Launch) (D : va_G) (a0 sz : Nat) : Met l y_I_init (Cond.code y_I_init b_I_init 1 none :: wa) rm_I_init (pw D [(a0, .inr (0, [.null, .null, .null, .null, .int 0]))] [] [.ref a0] sz) (va_Qv (fun u : sA => u.1 0 = a0) (bi D vI hI (va_A ([(a0, .inr (0, [.null, .null, .null, .null, .int 0]))]) sz)) (va_A ([(a0, .inr (0, [.null, .null, .null, .null, .int 0]))]) sz)) 4 32 (va_A ([(a0, .inr (0, [.null, .null, .null, .null, .int 0]))]) sz) := by
  refine Met.ofW (cc := b_I_init) (maxL := 1) (ret := none) (by decide) rfl ?_
  intro p e s m args below meth c s₁ B hml hv
  obtain ⟨rfl, hsz, hP, hK, hD0, hN⟩ := hv
  have hx := B.exec
  have hb := B.bytes
  have hr := B.returns
  have hts := atoms_spec (ws := Cond.code y_I_init b_I_init 1 none :: wa) B.pre
  have hw : ∀ w ∈ wa, w.before _ s = true := fun w h => hts w (List.mem_cons_of_mem _ h)
  have hown : s.vm.findClass R_I = some m.cls := findClass_of_methodNamed B.named
  have hlocks := B.notSynchronized
  have hin : meth.name = "<init>" := (name_of_methodNamed B.named B.method).1
  subst hsz
  have hD := hD0.self (sz := s.heap.size)
  generalize hAe : va_A ([(a0, .inr (0, [.null, .null, .null, .null, .int 0]))]) s.heap.size = AA at hD ⊢
  have hA : ∀ q : Nat, s.heap.size ≤ q → AA q := fun q h => by rw [← hAe]; exact Or.inr h
  have hS : va_S AA s.heap s.heap [] := va_S.rf
  have hl := lv_entry ([.ref a0]) (n := 1) (Nat.le_of_ble_eq_true rfl)
  rw [lg_entry_eq]
  generalize (lg_sl ([.ref a0]) ++ List.replicate (1 - (lg_sl ([.ref a0])).length) Slot.unset).toArray = ls at hl ⊢
  have hl : lv_has ls 1 [(0, .ref a0)] := hl
  refine lv_aload_n hx hb d_I_init_0 rfl (lv_at hl 0 rfl) ?_
  refine W.objInit hx hb hown (oi_l (hw _ ww_30)) (hw _ ww_23) (hw _ oi_c) rfl (by rw [hml]; exact hl.1) rfl d_I_init_1 (Nat.le_of_ble_eq_true rfl) (Nat.le_of_ble_eq_true rfl) ?_
  refine W.eq (g2 := F0 m 4 ls []) rfl ?_
  refine lv_aload_n hx hb d_I_init_4 rfl (lv_at hl 0 rfl) ?_
  refine lv_bipush (v := 8) hx hb d_I_init_5 (by decide) ?_
  refine va_newa (atype := .long) (ty := .long) (a0 := (8, .inr (.inl (fun _ => 0)))) (N' := 8) hx hb (hw _ ww_47) rfl hK hP hD hS hA (fun _ => rfl) (by decide) (by decide) (by decide) (Nat.le_of_ble_eq_true rfl) (Nat.le_of_ble_eq_true rfl) d_I_init_7 (fun q1 c1 H hK hP hD hS => ?_)
  have hP : va_P D vwC [(a0, .inr (0, [.null, .null, .null, .null, .int 0])), (q1, .inl (c1, 8, .inr (.inl (fun _ => 0))))] H := hP
  have hD : va_D AA [(a0, .inr (0, [.null, .null, .null, .null, .int 0])), (q1, .inl (c1, 8, .inr (.inl (fun _ => 0))))] := hD
  have hK : va_K D vwC [(c1, .long)] s := hK
  refine W.widen (k := 1) (n := 8) (Nat.le_of_ble_eq_true rfl) (Nat.le_of_ble_eq_true rfl) ?_
  refine va_putF (D := D) (ci := 0) (v := .ref (q1)) (ty := .array .long) (C := R_I) (T := T_I) (N := 5) hx hb hts in_I ft_I ft_I_ok fn_I hown hK hP hD hS 0 rfl rfl 0 (by decide) (hw _ ww_31) (fun _ h9 => h9) rfl hin rfl (by decide +kernel) rfl rfl (Nat.le_of_ble_eq_true rfl) d_I_init_9 (fun H locs hP hD hS => ?_)
  have hP : va_P D vwC [(a0, .inr (0, [.ref (q1), .null, .null, .null, .int 0])), (q1, .inl (c1, 8, .inr (.inl (fun _ => 0))))] H := hP
  have hD : va_D AA [(a0, .inr (0, [.ref (q1), .null, .null, .null, .int 0])), (q1, .inl (c1, 8, .inr (.inl (fun _ => 0))))] := hD
  refine lv_aload_n hx hb d_I_init_12 rfl (lv_at hl 0 rfl) ?_
  refine lv_bipush (v := 8) hx hb d_I_init_13 (by decide) ?_
  refine va_newa (atype := .long) (ty := .long) (a0 := (8, .inr (.inl (fun _ => 0)))) (N' := 8) hx hb (hw _ ww_47) rfl hK hP hD hS hA (fun _ => rfl) (by decide) (by decide) (by decide) (Nat.le_of_ble_eq_true rfl) (Nat.le_of_ble_eq_true rfl) d_I_init_15 (fun q2 c2 H hK hP hD hS => ?_)
  have hP : va_P D vwC [(a0, .inr (0, [.ref (q1), .null, .null, .null, .int 0])), (q1, .inl (c1, 8, .inr (.inl (fun _ => 0)))), (q2, .inl (c2, 8, .inr (.inl (fun _ => 0))))] H := hP
  have hD : va_D AA [(a0, .inr (0, [.ref (q1), .null, .null, .null, .int 0])), (q1, .inl (c1, 8, .inr (.inl (fun _ => 0)))), (q2, .inl (c2, 8, .inr (.inl (fun _ => 0))))] := hD
  have hK : va_K D vwC [(c1, .long), (c2, .long)] s := hK
  refine W.widen (k := 2) (n := 16) (Nat.le_of_ble_eq_true rfl) (Nat.le_of_ble_eq_true rfl) ?_
  refine va_putF (D := D) (ci := 0) (v := .ref (q2)) (ty := .array .long) (C := R_I) (T := T_I) (N := 5) hx hb hts in_I ft_I ft_I_ok fn_I hown hK hP hD hS 0 rfl rfl 1 (by decide) (hw _ ww_32) (fun _ h9 => h9) rfl hin rfl (by decide +kernel) rfl rfl (Nat.le_of_ble_eq_true rfl) d_I_init_17 (fun H locs hP hD hS => ?_)
  have hP : va_P D vwC [(a0, .inr (0, [.ref (q1), .ref (q2), .null, .null, .int 0])), (q1, .inl (c1, 8, .inr (.inl (fun _ => 0)))), (q2, .inl (c2, 8, .inr (.inl (fun _ => 0))))] H := hP
  have hD : va_D AA [(a0, .inr (0, [.ref (q1), .ref (q2), .null, .null, .int 0])), (q1, .inl (c1, 8, .inr (.inl (fun _ => 0)))), (q2, .inl (c2, 8, .inr (.inl (fun _ => 0))))] := hD
  refine lv_aload_n hx hb d_I_init_20 rfl (lv_at hl 0 rfl) ?_
  refine lv_bipush (v := 8) hx hb d_I_init_21 (by decide) ?_
  refine va_newa (atype := .int) (ty := .int) (a0 := (8, .inl (fun _ => 0))) (N' := 8) hx hb (hw _ ww_48) rfl hK hP hD hS hA (fun _ => rfl) (by decide) (by decide) (by decide) (Nat.le_of_ble_eq_true rfl) (Nat.le_of_ble_eq_true rfl) d_I_init_23 (fun q3 c3 H hK hP hD hS => ?_)
  have hP : va_P D vwC [(a0, .inr (0, [.ref (q1), .ref (q2), .null, .null, .int 0])), (q1, .inl (c1, 8, .inr (.inl (fun _ => 0)))), (q2, .inl (c2, 8, .inr (.inl (fun _ => 0)))), (q3, .inl (c3, 8, .inl (fun _ => 0)))] H := hP
  have hD : va_D AA [(a0, .inr (0, [.ref (q1), .ref (q2), .null, .null, .int 0])), (q1, .inl (c1, 8, .inr (.inl (fun _ => 0)))), (q2, .inl (c2, 8, .inr (.inl (fun _ => 0)))), (q3, .inl (c3, 8, .inl (fun _ => 0)))] := hD
  have hK : va_K D vwC [(c1, .long), (c2, .long), (c3, .int)] s := hK
  refine W.widen (k := 3) (n := 24) (Nat.le_of_ble_eq_true rfl) (Nat.le_of_ble_eq_true rfl) ?_
  refine va_putF (D := D) (ci := 0) (v := .ref (q3)) (ty := .array .int) (C := R_I) (T := T_I) (N := 5) hx hb hts in_I ft_I ft_I_ok fn_I hown hK hP hD hS 0 rfl rfl 2 (by decide) (hw _ ww_33) (fun _ h9 => h9) rfl hin rfl (by decide +kernel) rfl rfl (Nat.le_of_ble_eq_true rfl) d_I_init_25 (fun H locs hP hD hS => ?_)
  have hP : va_P D vwC [(a0, .inr (0, [.ref (q1), .ref (q2), .ref (q3), .null, .int 0])), (q1, .inl (c1, 8, .inr (.inl (fun _ => 0)))), (q2, .inl (c2, 8, .inr (.inl (fun _ => 0)))), (q3, .inl (c3, 8, .inl (fun _ => 0)))] H := hP
  have hD : va_D AA [(a0, .inr (0, [.ref (q1), .ref (q2), .ref (q3), .null, .int 0])), (q1, .inl (c1, 8, .inr (.inl (fun _ => 0)))), (q2, .inl (c2, 8, .inr (.inl (fun _ => 0)))), (q3, .inl (c3, 8, .inl (fun _ => 0)))] := hD
  refine lv_aload_n hx hb d_I_init_28 rfl (lv_at hl 0 rfl) ?_
  refine lv_bipush (v := 8) hx hb d_I_init_29 (by decide) ?_
  refine va_newa (atype := .int) (ty := .int) (a0 := (8, .inl (fun _ => 0))) (N' := 8) hx hb (hw _ ww_48) rfl hK hP hD hS hA (fun _ => rfl) (by decide) (by decide) (by decide) (Nat.le_of_ble_eq_true rfl) (Nat.le_of_ble_eq_true rfl) d_I_init_31 (fun q4 c4 H hK hP hD hS => ?_)
  have hP : va_P D vwC [(a0, .inr (0, [.ref (q1), .ref (q2), .ref (q3), .null, .int 0])), (q1, .inl (c1, 8, .inr (.inl (fun _ => 0)))), (q2, .inl (c2, 8, .inr (.inl (fun _ => 0)))), (q3, .inl (c3, 8, .inl (fun _ => 0))), (q4, .inl (c4, 8, .inl (fun _ => 0)))] H := hP
  have hD : va_D AA [(a0, .inr (0, [.ref (q1), .ref (q2), .ref (q3), .null, .int 0])), (q1, .inl (c1, 8, .inr (.inl (fun _ => 0)))), (q2, .inl (c2, 8, .inr (.inl (fun _ => 0)))), (q3, .inl (c3, 8, .inl (fun _ => 0))), (q4, .inl (c4, 8, .inl (fun _ => 0)))] := hD
  have hK : va_K D vwC [(c1, .long), (c2, .long), (c3, .int), (c4, .int)] s := hK
  refine W.widen (k := 4) (n := 32) (Nat.le_of_ble_eq_true rfl) (Nat.le_of_ble_eq_true rfl) ?_
  refine va_putF (D := D) (ci := 0) (v := .ref (q4)) (ty := .array .int) (C := R_I) (T := T_I) (N := 5) hx hb hts in_I ft_I ft_I_ok fn_I hown hK hP hD hS 0 rfl rfl 3 (by decide) (hw _ ww_34) (fun _ h9 => h9) rfl hin rfl (by decide +kernel) rfl rfl (Nat.le_of_ble_eq_true rfl) d_I_init_33 (fun H locs hP hD hS => ?_)
  have hP : va_P D vwC [(a0, .inr (0, [.ref (q1), .ref (q2), .ref (q3), .ref (q4), .int 0])), (q1, .inl (c1, 8, .inr (.inl (fun _ => 0)))), (q2, .inl (c2, 8, .inr (.inl (fun _ => 0)))), (q3, .inl (c3, 8, .inl (fun _ => 0))), (q4, .inl (c4, 8, .inl (fun _ => 0)))] H := hP
  have hD : va_D AA [(a0, .inr (0, [.ref (q1), .ref (q2), .ref (q3), .ref (q4), .int 0])), (q1, .inl (c1, 8, .inr (.inl (fun _ => 0)))), (q2, .inl (c2, 8, .inr (.inl (fun _ => 0)))), (q3, .inl (c3, 8, .inl (fun _ => 0))), (q4, .inl (c4, 8, .inl (fun _ => 0)))] := hD
  refine lv_aload_n hx hb d_I_init_36 rfl (lv_at hl 0 rfl) ?_
  refine lv_iconst (v := 0) hx hb d_I_init_37 (by decide) ?_
  refine va_put (D := D) (ci := 0) (v := .int 0) (ty := .int) (C := R_I) (T := T_I) (N := 5) hx hb hts in_I ft_I ft_I_ok fn_I hown hK hP hD hS 0 rfl rfl 4 (by decide) (hw _ ww_35) (fun _ h9 => h9) rfl (by decide +kernel) rfl rfl (Nat.le_of_ble_eq_true rfl) d_I_init_38 (fun H locs hP hD hS => ?_)
  have hP : va_P D vwC [(a0, .inr (0, [.ref (q1), .ref (q2), .ref (q3), .ref (q4), .int 0])), (q1, .inl (c1, 8, .inr (.inl (fun _ => 0)))), (q2, .inl (c2, 8, .inr (.inl (fun _ => 0)))), (q3, .inl (c3, 8, .inl (fun _ => 0))), (q4, .inl (c4, 8, .inl (fun _ => 0)))] H := hP
  have hD : va_D AA [(a0, .inr (0, [.ref (q1), .ref (q2), .ref (q3), .ref (q4), .int 0])), (q1, .inl (c1, 8, .inr (.inl (fun _ => 0)))), (q2, .inl (c2, 8, .inr (.inl (fun _ => 0)))), (q3, .inl (c3, 8, .inl (fun _ => 0))), (q4, .inl (c4, 8, .inl (fun _ => 0)))] := hD
  exact W.vret hx hb hr (fun t ht hW => ⟨⟨(fun k => [a0, q1, q2, q3, q4].getD k 0, fun k => [0, c1, c2, c3, c4].getD k 0), rfl, rfl, by rw [ht]; exact hP, va_K.moved hW.alike hK, hD⟩, hS.F ht⟩) hS.2.2 d_I_init_41
abbrev rm_T_init : Room := { frames := 1, cells := 1, slots := 20, locals := 20 }
set_option maxHeartbeats 4000000 in
set_option maxRecDepth 100000 in
theorem k_T_init (l : Launch) (D : va_G) (a0 sz : Nat) : Met l y_T_init (Cond.code y_T_init b_T_init 1 none :: wa) rm_T_init (pw D [(a0, .inr (1, [.null, .int 0]))] [] [.ref a0] sz) (va_Qv (fun u : sA => u.1 0 = a0) (bi D vT hT (va_A ([(a0, .inr (1, [.null, .int 0]))]) sz)) (va_A ([(a0, .inr (1, [.null, .int 0]))]) sz)) 1 20 (va_A ([(a0, .inr (1, [.null, .int 0]))]) sz) := by
  refine Met.ofW (cc := b_T_init) (maxL := 1) (ret := none) (by decide) rfl ?_
  intro p e s m args below meth c s₁ B hml hv
  obtain ⟨rfl, hsz, hP, hK, hD0, hN⟩ := hv
  have hx := B.exec
  have hb := B.bytes
  have hr := B.returns
  have hts := atoms_spec (ws := Cond.code y_T_init b_T_init 1 none :: wa) B.pre
  have hw : ∀ w ∈ wa, w.before _ s = true := fun w h => hts w (List.mem_cons_of_mem _ h)
  have hown : s.vm.findClass R_T = some m.cls := findClass_of_methodNamed B.named
  have hlocks := B.notSynchronized
  have hin : meth.name = "<init>" := (name_of_methodNamed B.named B.method).1
  subst hsz
  have hD := hD0.self (sz := s.heap.size)
  generalize hAe : va_A ([(a0, .inr (1, [.null, .int 0]))]) s.heap.size = AA at hD ⊢
  have hA : ∀ q : Nat, s.heap.size ≤ q → AA q := fun q h => by rw [← hAe]; exact Or.inr h
  have hS : va_S AA s.heap s.heap [] := va_S.rf
  have hl := lv_entry ([.ref a0]) (n := 1) (Nat.le_of_ble_eq_true rfl)
  rw [lg_entry_eq]
  generalize (lg_sl ([.ref a0]) ++ List.replicate (1 - (lg_sl ([.ref a0])).length) Slot.unset).toArray = ls at hl ⊢
  have hl : lv_has ls 1 [(0, .ref a0)] := hl
  refine lv_aload_n hx hb d_T_init_0 rfl (lv_at hl 0 rfl) ?_
  refine W.objInit hx hb hown (oi_l (hw _ ww_54)) (hw _ ww_23) (hw _ oi_c) rfl (by rw [hml]; exact hl.1) rfl d_T_init_1 (Nat.le_of_ble_eq_true rfl) (Nat.le_of_ble_eq_true rfl) ?_
  refine W.eq (g2 := F0 m 4 ls []) rfl ?_
  refine lv_aload_n hx hb d_T_init_4 rfl (lv_at hl 0 rfl) ?_
  refine lv_bipush (v := 20) hx hb d_T_init_5 (by decide) ?_
  refine va_newa (atype := .int) (ty := .int) (a0 := (20, .inl (fun _ => 0))) (N' := 20) hx hb (hw _ ww_48) rfl hK hP hD hS hA (fun _ => rfl) (by decide) (by decide) (by decide) (Nat.le_of_ble_eq_true rfl) (Nat.le_of_ble_eq_true rfl) d_T_init_7 (fun q1 c1 H hK hP hD hS => ?_)
  have hP : va_P D vwC [(a0, .inr (1, [.null, .int 0])), (q1, .inl (c1, 20, .inl (fun _ => 0)))] H := hP
  have hD : va_D AA [(a0, .inr (1, [.null, .int 0])), (q1, .inl (c1, 20, .inl (fun _ => 0)))] := hD
  have hK : va_K D vwC [(c1, .int)] s := hK
  refine W.widen (k := 1) (n := 20) (Nat.le_of_ble_eq_true rfl) (Nat.le_of_ble_eq_true rfl) ?_
  refine va_putF (D := D) (ci := 1) (v := .ref (q1)) (ty := .array .int) (C := R_T) (T := T_T) (N := 2) hx hb hts in_T ft_T ft_T_ok fn_T hown hK hP hD hS 0 rfl rfl 0 (by decide) (hw _ ww_55) (fun _ h9 => h9) rfl hin rfl (by decide +kernel) rfl rfl (Nat.le_of_ble_eq_true rfl) d_T_init_9 (fun H locs hP hD hS => ?_)
  have hP : va_P D vwC [(a0, .inr (1, [.ref (q1), .int 0])), (q1, .inl (c1, 20, .inl (fun _ => 0)))] H := hP
  have hD : va_D AA [(a0, .inr (1, [.ref (q1), .int 0])), (q1, .inl (c1, 20, .inl (fun _ => 0)))] := hD
  refine lv_aload_n hx hb d_T_init_12 rfl (lv_at hl 0 rfl) ?_
  refine lv_iconst (v := 0) hx hb d_T_init_13 (by decide) ?_
  refine va_put (D := D) (ci := 1) (v := .int 0) (ty := .int) (C := R_T) (T := T_T) (N := 2) hx hb hts in_T ft_T ft_T_ok fn_T hown hK hP hD hS 0 rfl rfl 1 (by decide) (hw _ ww_56) (fun _ h9 => h9) rfl (by decide +kernel) rfl rfl (Nat.le_of_ble_eq_true rfl) d_T_init_14 (fun H locs hP hD hS => ?_)
  have hP : va_P D vwC [(a0, .inr (1, [.ref (q1), .int 0])), (q1, .inl (c1, 20, .inl (fun _ => 0)))] H := hP
  have hD : va_D AA [(a0, .inr (1, [.ref (q1), .int 0])), (q1, .inl (c1, 20, .inl (fun _ => 0)))] := hD
  exact W.vret hx hb hr (fun t ht hW => ⟨⟨(fun k => [a0, q1].getD k 0, fun k => [0, c1].getD k 0), rfl, rfl, by rw [ht]; exact hP, va_K.moved hW.alike hK, hD⟩, hS.F ht⟩) hS.2.2 d_T_init_17
abbrev rm_K_init : Room := { frames := 2, cells := 9, slots := 71, locals := 40 }
set_option maxHeartbeats 4000000 in
set_option maxRecDepth 100000 in
theorem k_K_init (l : Launch) (D : va_G) (a0 sz : Nat) : Met l y_K_init (Cond.code y_K_init b_K_init 1 none :: wa) rm_K_init (pw D [(a0, .inr (2, [.null, .null, .null, .null, .int 0]))] [] [.ref a0] sz) (va_Qv (fun u : sA => u.1 0 = a0) (bi D (fun A cc => wK A cc zK) kK (va_A ([(a0, .inr (2, [.null, .null, .null, .null, .int 0]))]) sz)) (va_A ([(a0, .inr (2, [.null, .null, .null, .null, .int 0]))]) sz)) 9 71 (va_A ([(a0, .inr (2, [.null, .null, .null, .null, .int 0]))]) sz) := by
  refine Met.ofW (cc := b_K_init) (maxL := 1) (ret := none) (by decide) rfl ?_
  intro p e s m args below meth c s₁ B hml hv
  obtain ⟨rfl, hsz, hP, hK, hD0, hN⟩ := hv
  have hx := B.exec
  have hb := B.bytes
  have hr := B.returns
  have hts := atoms_spec (ws := Cond.code y_K_init b_K_init 1 none :: wa) B.pre
  have hw : ∀ w ∈ wa, w.before _ s = true := fun w h => hts w (List.mem_cons_of_mem _ h)
  have hown : s.vm.findClass R_K = some m.cls := findClass_of_methodNamed B.named
  have hlocks := B.notSynchronized
  have hin : meth.name = "<init>" := (name_of_methodNamed B.named B.method).1
  subst hsz
  have hD := hD0.self (sz := s.heap.size)
  generalize hAe : va_A ([(a0, .inr (2, [.null, .null, .null, .null, .int 0]))]) s.heap.size = AA at hD ⊢
  have hA : ∀ q : Nat, s.heap.size ≤ q → AA q := fun q h => by rw [← hAe]; exact Or.inr h
  have hS : va_S AA s.heap s.heap [] := va_S.rf
  have hl := lv_entry ([.ref a0]) (n := 1) (Nat.le_of_ble_eq_true rfl)
  rw [lg_entry_eq]
  generalize (lg_sl ([.ref a0]) ++ List.replicate (1 - (lg_sl ([.ref a0])).length) Slot.unset).toArray = ls at hl ⊢
  have hl : lv_has ls 1 [(0, .ref a0)] := hl
  refine lv_aload_n hx hb d_K_init_0 rfl (lv_at hl 0 rfl) ?_
  refine W.objInit hx hb hown (oi_l (hw _ ww_22)) (hw _ ww_23) (hw _ oi_c) rfl (by rw [hml]; exact hl.1) rfl d_K_init_1 (Nat.le_of_ble_eq_true rfl) (Nat.le_of_ble_eq_true rfl) ?_
  refine W.eq (g2 := F0 m 4 ls []) rfl ?_
  refine lv_aload_n hx hb d_K_init_4 rfl (lv_at hl 0 rfl) ?_
  refine lv_bipush (v := 6) hx hb d_K_init_5 (by decide) ?_
  refine va_newa (atype := .long) (ty := .long) (a0 := (6, .inr (.inl (fun _ => 0)))) (N' := 6) hx hb (hw _ ww_47) rfl hK hP hD hS hA (fun _ => rfl) (by decide) (by decide) (by decide) (Nat.le_of_ble_eq_true rfl) (Nat.le_of_ble_eq_true rfl) d_K_init_7 (fun q1 c1 H hK hP hD hS => ?_)
  have hP : va_P D vwC [(a0, .inr (2, [.null, .null, .null, .null, .int 0])), (q1, .inl (c1, 6, .inr (.inl (fun _ => 0))))] H := hP
  have hD : va_D AA [(a0, .inr (2, [.null, .null, .null, .null, .int 0])), (q1, .inl (c1, 6, .inr (.inl (fun _ => 0))))] := hD
  have hK : va_K D vwC [(c1, .long)] s := hK
  refine W.widen (k := 1) (n := 6) (Nat.le_of_ble_eq_true rfl) (Nat.le_of_ble_eq_true rfl) ?_
  refine va_putF (D := D) (ci := 2) (v := .ref (q1)) (ty := .array .long) (C := R_K) (T := T_K) (N := 5) hx hb hts in_K ft_K ft_K_ok fn_K hown hK hP hD hS 0 rfl rfl 0 (by decide) (hw _ ww_62) (fun _ h9 => h9) rfl hin rfl (by decide +kernel) rfl rfl (Nat.le_of_ble_eq_true rfl) d_K_init_9 (fun H locs hP hD hS => ?_)
  have hP : va_P D vwC [(a0, .inr (2, [.ref (q1), .null, .null, .null, .int 0])), (q1, .inl (c1, 6, .inr (.inl (fun _ => 0))))] H := hP
  have hD : va_D AA [(a0, .inr (2, [.ref (q1), .null, .null, .null, .int 0])), (q1, .inl (c1, 6, .inr (.inl (fun _ => 0))))] := hD
  refine lv_aload_n hx hb d_K_init_12 rfl (lv_at hl 0 rfl) ?_
  refine lv_bipush (v := 6) hx hb d_K_init_13 (by decide) ?_
  refine va_newa (atype := .long) (ty := .long) (a0 := (6, .inr (.inl (fun _ => 0)))) (N' := 6) hx hb (hw _ ww_47) rfl hK hP hD hS hA (fun _ => rfl) (by decide) (by decide) (by decide) (Nat.le_of_ble_eq_true rfl) (Nat.le_of_ble_eq_true rfl) d_K_init_15 (fun q2 c2 H hK hP hD hS => ?_)
  have hP : va_P D vwC [(a0, .inr (2, [.ref (q1), .null, .null, .null, .int 0])), (q1, .inl (c1, 6, .inr (.inl (fun _ => 0)))), (q2, .inl (c2, 6, .inr (.inl (fun _ => 0))))] H := hP
  have hD : va_D AA [(a0, .inr (2, [.ref (q1), .null, .null, .null, .int 0])), (q1, .inl (c1, 6, .inr (.inl (fun _ => 0)))), (q2, .inl (c2, 6, .inr (.inl (fun _ => 0))))] := hD
  have hK : va_K D vwC [(c1, .long), (c2, .long)] s := hK
  refine W.widen (k := 2) (n := 12) (Nat.le_of_ble_eq_true rfl) (Nat.le_of_ble_eq_true rfl) ?_
  refine va_putF (D := D) (ci := 2) (v := .ref (q2)) (ty := .array .long) (C := R_K) (T := T_K) (N := 5) hx hb hts in_K ft_K ft_K_ok fn_K hown hK hP hD hS 0 rfl rfl 1 (by decide) (hw _ ww_63) (fun _ h9 => h9) rfl hin rfl (by decide +kernel) rfl rfl (Nat.le_of_ble_eq_true rfl) d_K_init_17 (fun H locs hP hD hS => ?_)
  have hP : va_P D vwC [(a0, .inr (2, [.ref (q1), .ref (q2), .null, .null, .int 0])), (q1, .inl (c1, 6, .inr (.inl (fun _ => 0)))), (q2, .inl (c2, 6, .inr (.inl (fun _ => 0))))] H := hP
  have hD : va_D AA [(a0, .inr (2, [.ref (q1), .ref (q2), .null, .null, .int 0])), (q1, .inl (c1, 6, .inr (.inl (fun _ => 0)))), (q2, .inl (c2, 6, .inr (.inl (fun _ => 0))))] := hD
  refine lv_aload_n hx hb d_K_init_20 rfl (lv_at hl 0 rfl) ?_
  refine va_new (ci := 0) (fs := [.null, .null, .null, .null, .int 0]) (C := R_I) (T := T_I) (N := 5) hx hb hts in_I ft_I ft_I_ok hown (hw _ ww_25) (hw _ ww_26) (hw _ ww_2) hK hP hD hS hA rfl (fun j hj => by rcases (show j = 0 ∨ j = 1 ∨ j = 2 ∨ j = 3 ∨ j = 4 by omega) with rfl | rfl | rfl | rfl | rfl <;> rfl) (Nat.le_of_ble_eq_true rfl) (Nat.le_of_ble_eq_true rfl) d_K_init_21 (fun q3 H hP hD hS => ?_)
  have hP : va_P D vwC [(a0, .inr (2, [.ref (q1), .ref (q2), .null, .null, .int 0])), (q1, .inl (c1, 6, .inr (.inl (fun _ => 0)))), (q2, .inl (c2, 6, .inr (.inl (fun _ => 0)))), (q3, .inr (0, [.null, .null, .null, .null, .int 0]))] H := hP
  have hD : va_D AA [(a0, .inr (2, [.ref (q1), .ref (q2), .null, .null, .int 0])), (q1, .inl (c1, 6, .inr (.inl (fun _ => 0)))), (q2, .inl (c2, 6, .inr (.inl (fun _ => 0)))), (q3, .inr (0, [.null, .null, .null, .null, .int 0]))] := hD
  refine W.widen (k := 3) (n := 17) (Nat.le_of_ble_eq_true rfl) (Nat.le_of_ble_eq_true rfl) ?_
  refine lv_dup hx hb d_K_init_24 rfl ?_
  have hPc := hP.sub (ws' := [(q3, .inr (0, [.null, .null, .null, .null, .int 0]))]) [3] rfl
  have hDc := hD.sub (ws' := [(q3, .inr (0, [.null, .null, .null, .null, .int 0]))]) [3] (by decide) rfl
  have hKc := hK.sub (tys' := []) [] rfl
  have hFc := va_free (wc := [(q3, .inr (0, [.null, .null, .null, .null, .int 0]))]) hD hS hA [3] rfl
  refine va_callv (va_runIN (As := []) (rest := [.ref q3, .ref a0]) ⟨hx, hb, hml, hown, hts⟩ (k_I_init l D q3 _) ⟨va_cnB 0 hts (ga_N ww_29) rfl rfl rfl (hN _ nl_0) (hw _ ww_2) (by decide +kernel) ⟨by decide, by decide⟩, rfl, hw _ ww_28⟩ (pw_preS hPc hKc hDc hN) rfl rfl hl.1 rfl (lv_room (Nat.le_of_ble_eq_true rfl)) d_K_init_25 ⟨Nat.le_of_ble_eq_true rfl, Nat.le_of_ble_eq_true rfl⟩) hS (fun q _ h => hFc q h) hFc (fun u4 t H1 locs ht hvm hu hB hz1 hk1 hS => ?_)
  obtain rfl : u4.1 0 = q3 := hu
  obtain ⟨hP1, hK1, hD1⟩ := hB
  rw [ht] at hP1
  have hK1 := va_K.moved hvm.symm hK1
  obtain ⟨hP, hD⟩ := va_join (wr := [(a0, .inr (2, [.ref (q1), .ref (q2), .null, .null, .int 0])), (q1, .inl (c1, 6, .inr (.inl (fun _ => 0)))), (q2, .inl (c2, 6, .inr (.inl (fun _ => 0))))]) (w1 := vI u4.1 u4.2) hP hD [3] [0, 1, 2] rfl rfl (by decide) (by decide) hk1 hFc hP1 hD1
  have hK := hK.app hK1
  generalize H1 = H at hP hS ⊢
  have hP : va_P D vwC [(a0, .inr (2, [.ref (q1), .ref (q2), .null, .null, .int 0])), (q1, .inl (c1, 6, .inr (.inl (fun _ => 0)))), (q2, .inl (c2, 6, .inr (.inl (fun _ => 0)))), (u4.1 0, .inr (0, [.ref (u4.1 1), .ref (u4.1 2), .ref (u4.1 3), .ref (u4.1 4), .int 0])), (u4.1 1, .inl (u4.2 1, 8, .inr (.inl (fun _ => 0)))), (u4.1 2, .inl (u4.2 2, 8, .inr (.inl (fun _ => 0)))), (u4.1 3, .inl (u4.2 3, 8, .inl (fun _ => 0))), (u4.1 4, .inl (u4.2 4, 8, .inl (fun _ => 0)))] H := hP
  have hD : va_D AA [(a0, .inr (2, [.ref (q1), .ref (q2), .null, .null, .int 0])), (q1, .inl (c1, 6, .inr (.inl (fun _ => 0)))), (q2, .inl (c2, 6, .inr (.inl (fun _ => 0)))), (u4.1 0, .inr (0, [.ref (u4.1 1), .ref (u4.1 2), .ref (u4.1 3), .ref (u4.1 4), .int 0])), (u4.1 1, .inl (u4.2 1, 8, .inr (.inl (fun _ => 0)))), (u4.1 2, .inl (u4.2 2, 8, .inr (.inl (fun _ => 0)))), (u4.1 3, .inl (u4.2 3, 8, .inl (fun _ => 0))), (u4.1 4, .inl (u4.2 4, 8, .inl (fun _ => 0)))] := hD
  have hK : va_K D vwC [(c1, .long), (c2, .long), (u4.2 1, .long), (u4.2 2, .long), (u4.2 3, .int), (u4.2 4, .int)] s := hK
  refine W.widen (k := 7) (n := 49) (Nat.le_of_ble_eq_true rfl) (Nat.le_of_ble_eq_true rfl) ?_
  refine va_putF (D := D) (ci := 2) (v := .ref (u4.1 0)) (ty := .object "EvenCurveKeys$Items") (C := R_K) (T := T_K) (N := 5) hx hb hts in_K ft_K ft_K_ok fn_K hown hK hP hD hS 0 rfl rfl 2 (by decide) (hw _ ww_64) (fun _ h9 => h9) rfl hin rfl (by decide +kernel) rfl rfl (Nat.le_of_ble_eq_true rfl) d_K_init_28 (fun H locs hP hD hS => ?_)
  have hP : va_P D vwC [(a0, .inr (2, [.ref (q1), .ref (q2), .ref (u4.1 0), .null, .int 0])), (q1, .inl (c1, 6, .inr (.inl (fun _ => 0)))), (q2, .inl (c2, 6, .inr (.inl (fun _ => 0)))), (u4.1 0, .inr (0, [.ref (u4.1 1), .ref (u4.1 2), .ref (u4.1 3), .ref (u4.1 4), .int 0])), (u4.1 1, .inl (u4.2 1, 8, .inr (.inl (fun _ => 0)))), (u4.1 2, .inl (u4.2 2, 8, .inr (.inl (fun _ => 0)))), (u4.1 3, .inl (u4.2 3, 8, .inl (fun _ => 0))), (u4.1 4, .inl (u4.2 4, 8, .inl (fun _ => 0)))] H := hP
  have hD : va_D AA [(a0, .inr (2, [.ref (q1), .ref (q2), .ref (u4.1 0), .null, .int 0])), (q1, .inl (c1, 6, .inr (.inl (fun _ => 0)))), (q2, .inl (c2, 6, .inr (.inl (fun _ => 0)))), (u4.1 0, .inr (0, [.ref (u4.1 1), .ref (u4.1 2), .ref (u4.1 3), .ref (u4.1 4), .int 0])), (u4.1 1, .inl (u4.2 1, 8, .inr (.inl (fun _ => 0)))), (u4.1 2, .inl (u4.2 2, 8, .inr (.inl (fun _ => 0)))), (u4.1 3, .inl (u4.2 3, 8, .inl (fun _ => 0))), (u4.1 4, .inl (u4.2 4, 8, .inl (fun _ => 0)))] := hD
  refine lv_aload_n hx hb d_K_init_31 rfl (lv_at hl 0 rfl) ?_
  refine va_new (ci := 1) (fs := [.null, .int 0]) (C := R_T) (T := T_T) (N := 2) hx hb hts in_T ft_T ft_T_ok hown (hw _ ww_49) (hw _ ww_50) (hw _ ww_3) hK hP hD hS hA rfl (fun j hj => by rcases (show j = 0 ∨ j = 1 by omega) with rfl | rfl <;> rfl) (Nat.le_of_ble_eq_true rfl) (Nat.le_of_ble_eq_true rfl) d_K_init_32 (fun q5 H hP hD hS => ?_)
  have hP : va_P D vwC [(a0, .inr (2, [.ref (q1), .ref (q2), .ref (u4.1 0), .null, .int 0])), (q1, .inl (c1, 6, .inr (.inl (fun _ => 0)))), (q2, .inl (c2, 6, .inr (.inl (fun _ => 0)))), (u4.1 0, .inr (0, [.ref (u4.1 1), .ref (u4.1 2), .ref (u4.1 3), .ref (u4.1 4), .int 0])), (u4.1 1, .inl (u4.2 1, 8, .inr (.inl (fun _ => 0)))), (u4.1 2, .inl (u4.2 2, 8, .inr (.inl (fun _ => 0)))), (u4.1 3, .inl (u4.2 3, 8, .inl (fun _ => 0))), (u4.1 4, .inl (u4.2 4, 8, .inl (fun _ => 0))), (q5, .inr (1, [.null, .int 0]))] H := hP
  have hD : va_D AA [(a0, .inr (2, [.ref (q1), .ref (q2), .ref (u4.1 0), .null, .int 0])), (q1, .inl (c1, 6, .inr (.inl (fun _ => 0)))), (q2, .inl (c2, 6, .inr (.inl (fun _ => 0)))), (u4.1 0, .inr (0, [.ref (u4.1 1), .ref (u4.1 2), .ref (u4.1 3), .ref (u4.1 4), .int 0])), (u4.1 1, .inl (u4.2 1, 8, .inr (.inl (fun _ => 0)))), (u4.1 2, .inl (u4.2 2, 8, .inr (.inl (fun _ => 0)))), (u4.1 3, .inl (u4.2 3, 8, .inl (fun _ => 0))), (u4.1 4, .inl (u4.2 4, 8, .inl (fun _ => 0))), (q5, .inr (1, [.null, .int 0]))] := hD
  refine W.widen (k := 8) (n := 51) (Nat.le_of_ble_eq_true rfl) (Nat.le_of_ble_eq_true rfl) ?_
  refine lv_dup hx hb d_K_init_35 rfl ?_
  have hPc := hP.sub (ws' := [(q5, .inr (1, [.null, .int 0]))]) [8] rfl
  have hDc := hD.sub (ws' := [(q5, .inr (1, [.null, .int 0]))]) [8] (by decide) rfl
  have hKc := hK.sub (tys' := []) [] rfl
  have hFc := va_free (wc := [(q5, .inr (1, [.null, .int 0]))]) hD hS hA [8] rfl
  refine va_callv (va_runIN (As := []) (rest := [.ref q5, .ref a0]) ⟨hx, hb, hml, hown, hts⟩ (k_T_init l D q5 _) ⟨va_cnB 0 hts (ga_N ww_53) rfl rfl rfl (hN _ nl_1) (hw _ ww_3) (by decide +kernel) ⟨by decide, by decide⟩, rfl, hw _ ww_52⟩ (pw_preS hPc hKc hDc hN) rfl rfl hl.1 rfl (lv_room (Nat.le_of_ble_eq_true rfl)) d_K_init_36 ⟨Nat.le_of_ble_eq_true rfl, Nat.le_of_ble_eq_true rfl⟩) hS (fun q _ h => hFc q h) hFc (fun u6 t H1 locs ht hvm hu hB hz1 hk1 hS => ?_)
  obtain rfl : u6.1 0 = q5 := hu
  obtain ⟨hP1, hK1, hD1⟩ := hB
  rw [ht] at hP1
  have hK1 := va_K.moved hvm.symm hK1
  obtain ⟨hP, hD⟩ := va_join (wr := [(a0, .inr (2, [.ref (q1), .ref (q2), .ref (u4.1 0), .null, .int 0])), (q1, .inl (c1, 6, .inr (.inl (fun _ => 0)))), (q2, .inl (c2, 6, .inr (.inl (fun _ => 0)))), (u4.1 0, .inr (0, [.ref (u4.1 1), .ref (u4.1 2), .ref (u4.1 3), .ref (u4.1 4), .int 0])), (u4.1 1, .inl (u4.2 1, 8, .inr (.inl (fun _ => 0)))), (u4.1 2, .inl (u4.2 2, 8, .inr (.inl (fun _ => 0)))), (u4.1 3, .inl (u4.2 3, 8, .inl (fun _ => 0))), (u4.1 4, .inl (u4.2 4, 8, .inl (fun _ => 0)))]) (w1 := vT u6.1 u6.2) hP hD [8] [0, 1, 2, 3, 4, 5, 6, 7] rfl rfl (by decide) (by decide) hk1 hFc hP1 hD1
  have hK := hK.app hK1
  generalize H1 = H at hP hS ⊢
  have hP : va_P D vwC [(a0, .inr (2, [.ref (q1), .ref (q2), .ref (u4.1 0), .null, .int 0])), (q1, .inl (c1, 6, .inr (.inl (fun _ => 0)))), (q2, .inl (c2, 6, .inr (.inl (fun _ => 0)))), (u4.1 0, .inr (0, [.ref (u4.1 1), .ref (u4.1 2), .ref (u4.1 3), .ref (u4.1 4), .int 0])), (u4.1 1, .inl (u4.2 1, 8, .inr (.inl (fun _ => 0)))), (u4.1 2, .inl (u4.2 2, 8, .inr (.inl (fun _ => 0)))), (u4.1 3, .inl (u4.2 3, 8, .inl (fun _ => 0))), (u4.1 4, .inl (u4.2 4, 8, .inl (fun _ => 0))), (u6.1 0, .inr (1, [.ref (u6.1 1), .int 0])), (u6.1 1, .inl (u6.2 1, 20, .inl (fun _ => 0)))] H := hP
  have hD : va_D AA [(a0, .inr (2, [.ref (q1), .ref (q2), .ref (u4.1 0), .null, .int 0])), (q1, .inl (c1, 6, .inr (.inl (fun _ => 0)))), (q2, .inl (c2, 6, .inr (.inl (fun _ => 0)))), (u4.1 0, .inr (0, [.ref (u4.1 1), .ref (u4.1 2), .ref (u4.1 3), .ref (u4.1 4), .int 0])), (u4.1 1, .inl (u4.2 1, 8, .inr (.inl (fun _ => 0)))), (u4.1 2, .inl (u4.2 2, 8, .inr (.inl (fun _ => 0)))), (u4.1 3, .inl (u4.2 3, 8, .inl (fun _ => 0))), (u4.1 4, .inl (u4.2 4, 8, .inl (fun _ => 0))), (u6.1 0, .inr (1, [.ref (u6.1 1), .int 0])), (u6.1 1, .inl (u6.2 1, 20, .inl (fun _ => 0)))] := hD
  have hK : va_K D vwC [(c1, .long), (c2, .long), (u4.2 1, .long), (u4.2 2, .long), (u4.2 3, .int), (u4.2 4, .int), (u6.2 1, .int)] s := hK
  refine W.widen (k := 9) (n := 71) (Nat.le_of_ble_eq_true rfl) (Nat.le_of_ble_eq_true rfl) ?_
  refine va_putF (D := D) (ci := 2) (v := .ref (u6.1 0)) (ty := .object "EvenCurveKeys$Typed") (C := R_K) (T := T_K) (N := 5) hx hb hts in_K ft_K ft_K_ok fn_K hown hK hP hD hS 0 rfl rfl 3 (by decide) (hw _ ww_65) (fun _ h9 => h9) rfl hin rfl (by decide +kernel) rfl rfl (Nat.le_of_ble_eq_true rfl) d_K_init_39 (fun H locs hP hD hS => ?_)
  have hP : va_P D vwC [(a0, .inr (2, [.ref (q1), .ref (q2), .ref (u4.1 0), .ref (u6.1 0), .int 0])), (q1, .inl (c1, 6, .inr (.inl (fun _ => 0)))), (q2, .inl (c2, 6, .inr (.inl (fun _ => 0)))), (u4.1 0, .inr (0, [.ref (u4.1 1), .ref (u4.1 2), .ref (u4.1 3), .ref (u4.1 4), .int 0])), (u4.1 1, .inl (u4.2 1, 8, .inr (.inl (fun _ => 0)))), (u4.1 2, .inl (u4.2 2, 8, .inr (.inl (fun _ => 0)))), (u4.1 3, .inl (u4.2 3, 8, .inl (fun _ => 0))), (u4.1 4, .inl (u4.2 4, 8, .inl (fun _ => 0))), (u6.1 0, .inr (1, [.ref (u6.1 1), .int 0])), (u6.1 1, .inl (u6.2 1, 20, .inl (fun _ => 0)))] H := hP
  have hD : va_D AA [(a0, .inr (2, [.ref (q1), .ref (q2), .ref (u4.1 0), .ref (u6.1 0), .int 0])), (q1, .inl (c1, 6, .inr (.inl (fun _ => 0)))), (q2, .inl (c2, 6, .inr (.inl (fun _ => 0)))), (u4.1 0, .inr (0, [.ref (u4.1 1), .ref (u4.1 2), .ref (u4.1 3), .ref (u4.1 4), .int 0])), (u4.1 1, .inl (u4.2 1, 8, .inr (.inl (fun _ => 0)))), (u4.1 2, .inl (u4.2 2, 8, .inr (.inl (fun _ => 0)))), (u4.1 3, .inl (u4.2 3, 8, .inl (fun _ => 0))), (u4.1 4, .inl (u4.2 4, 8, .inl (fun _ => 0))), (u6.1 0, .inr (1, [.ref (u6.1 1), .int 0])), (u6.1 1, .inl (u6.2 1, 20, .inl (fun _ => 0)))] := hD
  refine lv_aload_n hx hb d_K_init_42 rfl (lv_at hl 0 rfl) ?_
  refine lv_iconst (v := 0) hx hb d_K_init_43 (by decide) ?_
  refine va_put (D := D) (ci := 2) (v := .int 0) (ty := .int) (C := R_K) (T := T_K) (N := 5) hx hb hts in_K ft_K ft_K_ok fn_K hown hK hP hD hS 0 rfl rfl 4 (by decide) (hw _ ww_66) (fun _ h9 => h9) rfl (by decide +kernel) rfl rfl (Nat.le_of_ble_eq_true rfl) d_K_init_44 (fun H locs hP hD hS => ?_)
  have hP : va_P D vwC [(a0, .inr (2, [.ref (q1), .ref (q2), .ref (u4.1 0), .ref (u6.1 0), .int 0])), (q1, .inl (c1, 6, .inr (.inl (fun _ => 0)))), (q2, .inl (c2, 6, .inr (.inl (fun _ => 0)))), (u4.1 0, .inr (0, [.ref (u4.1 1), .ref (u4.1 2), .ref (u4.1 3), .ref (u4.1 4), .int 0])), (u4.1 1, .inl (u4.2 1, 8, .inr (.inl (fun _ => 0)))), (u4.1 2, .inl (u4.2 2, 8, .inr (.inl (fun _ => 0)))), (u4.1 3, .inl (u4.2 3, 8, .inl (fun _ => 0))), (u4.1 4, .inl (u4.2 4, 8, .inl (fun _ => 0))), (u6.1 0, .inr (1, [.ref (u6.1 1), .int 0])), (u6.1 1, .inl (u6.2 1, 20, .inl (fun _ => 0)))] H := hP
  have hD : va_D AA [(a0, .inr (2, [.ref (q1), .ref (q2), .ref (u4.1 0), .ref (u6.1 0), .int 0])), (q1, .inl (c1, 6, .inr (.inl (fun _ => 0)))), (q2, .inl (c2, 6, .inr (.inl (fun _ => 0)))), (u4.1 0, .inr (0, [.ref (u4.1 1), .ref (u4.1 2), .ref (u4.1 3), .ref (u4.1 4), .int 0])), (u4.1 1, .inl (u4.2 1, 8, .inr (.inl (fun _ => 0)))), (u4.1 2, .inl (u4.2 2, 8, .inr (.inl (fun _ => 0)))), (u4.1 3, .inl (u4.2 3, 8, .inl (fun _ => 0))), (u4.1 4, .inl (u4.2 4, 8, .inl (fun _ => 0))), (u6.1 0, .inr (1, [.ref (u6.1 1), .int 0])), (u6.1 1, .inl (u6.2 1, 20, .inl (fun _ => 0)))] := hD
  exact W.vret hx hb hr (fun t ht hW => ⟨⟨(fun k => [a0, q1, q2, u4.1 0, u4.1 1, u4.1 2, u4.1 3, u4.1 4, u6.1 0, u6.1 1].getD k 0, fun k => [0, c1, c2, 0, u4.2 1, u4.2 2, u4.2 3, u4.2 4, 0, u6.2 1].getD k 0), rfl, rfl, by rw [ht]; exact hP, va_K.moved hW.alike hK, hD⟩, hS.F ht⟩) hS.2.2 d_K_init_47
def f_M_init_70 : Nat → sM → Int32 → Option (sM × Int32)
  | 0, _, _ => none
  | n + 1, g2, u1 => if 6 ≤ u1 then (some (g2, u1)) else (if u1 < 0 ∨ 6 ≤ Int32.toNatClampNeg u1 then none else (Option.bind (some (u1 + 1)) (fun v10 => f_M_init_70  n (g2.1, (vp_updL g2.2.1 (Int32.toNatClampNeg u1) (-1)), g2.2.2.1, g2.2.2.2.1, g2.2.2.2.2.1, g2.2.2.2.2.2.1, g2.2.2.2.2.2.2.1, g2.2.2.2.2.2.2.2.1, g2.2.2.2.2.2.2.2.2.1, g2.2.2.2.2.2.2.2.2.2.1, g2.2.2.2.2.2.2.2.2.2.2.1, g2.2.2.2.2.2.2.2.2.2.2.2.1, g2.2.2.2.2.2.2.2.2.2.2.2.2) v10)))
def f_M_init : Option sM := Option.bind (f_M_init_70  64 zM 0) (fun t12 => match t12 with | (o4, o5) => (some (o4)))
abbrev rm_M_init : Room := { frames := 1, cells := 8, slots := 80, locals := 20 }
set_option maxHeartbeats 4000000 in
set_option maxRecDepth 100000 in
theorem k_M_init (l : Launch) (D : va_G) (a0 sz : Nat) (gr : sM) (hF : f_M_init = some gr) : Met l y_M_init (Cond.code y_M_init b_M_init 2 none :: wa) rm_M_init (pw D [(a0, .inr (3, [.int 0, .null, .null, .int 0, .int 0, .null, .null, .null, .null, .int 0, .null, .int 0, .null]))] [] [.ref a0] sz) (va_Qv (fun u : sA => u.1 0 = a0) (bi D (fun A cc => wM A cc gr) kM (va_A ([(a0, .inr (3, [.int 0, .null, .null, .int 0, .int 0, .null, .null, .null, .null, .int 0, .null, .int 0, .null]))]) sz)) (va_A ([(a0, .inr (3, [.int 0, .null, .null, .int 0, .int 0, .null, .null, .null, .null, .int 0, .null, .int 0, .null]))]) sz)) 8 80 (va_A ([(a0, .inr (3, [.int 0, .null, .null, .int 0, .int 0, .null, .null, .null, .null, .int 0, .null, .int 0, .null]))]) sz) := by
  refine Met.ofW (cc := b_M_init) (maxL := 2) (ret := none) (by decide) rfl ?_
  intro p e s m args below meth c s₁ B hml hv
  obtain ⟨rfl, hsz, hP, hK, hD0, hN⟩ := hv
  have hx := B.exec
  have hb := B.bytes
  have hr := B.returns
  have hts := atoms_spec (ws := Cond.code y_M_init b_M_init 2 none :: wa) B.pre
  have hw : ∀ w ∈ wa, w.before _ s = true := fun w h => hts w (List.mem_cons_of_mem _ h)
  have hown : s.vm.findClass R_M = some m.cls := findClass_of_methodNamed B.named
  have hlocks := B.notSynchronized
  have hin : meth.name = "<init>" := (name_of_methodNamed B.named B.method).1
  subst hsz
  have hD := hD0.self (sz := s.heap.size)
  generalize hAe : va_A ([(a0, .inr (3, [.int 0, .null, .null, .int 0, .int 0, .null, .null, .null, .null, .int 0, .null, .int 0, .null]))]) s.heap.size = AA at hD ⊢
  have hA : ∀ q : Nat, s.heap.size ≤ q → AA q := fun q h => by rw [← hAe]; exact Or.inr h
  have hS : va_S AA s.heap s.heap [] := va_S.rf
  have hl := lv_entry ([.ref a0]) (n := 2) (Nat.le_of_ble_eq_true rfl)
  rw [lg_entry_eq]
  generalize (lg_sl ([.ref a0]) ++ List.replicate (2 - (lg_sl ([.ref a0])).length) Slot.unset).toArray = ls at hl ⊢
  have hl : lv_has ls 2 [(0, .ref a0)] := hl
  refine lv_aload_n hx hb d_M_init_0 rfl (lv_at hl 0 rfl) ?_
  refine W.objInit hx hb hown (oi_l (hw _ ww_532)) (hw _ ww_23) (hw _ oi_c) rfl (by rw [hml]; exact hl.1) rfl d_M_init_1 (Nat.le_of_ble_eq_true rfl) (Nat.le_of_ble_eq_true rfl) ?_
  refine W.eq (g2 := F0 m 4 ls []) rfl ?_
  refine lv_aload_n hx hb d_M_init_4 rfl (lv_at hl 0 rfl) ?_
  refine lv_bipush (v := 6) hx hb d_M_init_5 (by decide) ?_
  refine va_newa (atype := .long) (ty := .long) (a0 := (6, .inr (.inl (fun _ => 0)))) (N' := 6) hx hb (hw _ ww_47) rfl hK hP hD hS hA (fun _ => rfl) (by decide) (by decide) (by decide) (Nat.le_of_ble_eq_true rfl) (Nat.le_of_ble_eq_true rfl) d_M_init_7 (fun q1 c1 H hK hP hD hS => ?_)
  have hP : va_P D vwC [(a0, .inr (3, [.int 0, .null, .null, .int 0, .int 0, .null, .null, .null, .null, .int 0, .null, .int 0, .null])), (q1, .inl (c1, 6, .inr (.inl (fun _ => 0))))] H := hP
  have hD : va_D AA [(a0, .inr (3, [.int 0, .null, .null, .int 0, .int 0, .null, .null, .null, .null, .int 0, .null, .int 0, .null])), (q1, .inl (c1, 6, .inr (.inl (fun _ => 0))))] := hD
  have hK : va_K D vwC [(c1, .long)] s := hK
  refine W.widen (k := 1) (n := 6) (Nat.le_of_ble_eq_true rfl) (Nat.le_of_ble_eq_true rfl) ?_
  refine va_putF (D := D) (ci := 3) (v := .ref (q1)) (ty := .array .long) (C := R_M) (T := T_M) (N := 13) hx hb hts in_M ft_M ft_M_ok fn_M hown hK hP hD hS 0 rfl rfl 1 (by decide) (hw _ ww_535) (fun _ h9 => h9) rfl hin rfl (by decide +kernel) rfl rfl (Nat.le_of_ble_eq_true rfl) d_M_init_9 (fun H locs hP hD hS => ?_)
  have hP : va_P D vwC [(a0, .inr (3, [.int 0, .ref (q1), .null, .int 0, .int 0, .null, .null, .null, .null, .int 0, .null, .int 0, .null])), (q1, .inl (c1, 6, .inr (.inl (fun _ => 0))))] H := hP
  have hD : va_D AA [(a0, .inr (3, [.int 0, .ref (q1), .null, .int 0, .int 0, .null, .null, .null, .null, .int 0, .null, .int 0, .null])), (q1, .inl (c1, 6, .inr (.inl (fun _ => 0))))] := hD
  refine lv_aload_n hx hb d_M_init_12 rfl (lv_at hl 0 rfl) ?_
  refine lv_bipush (v := 6) hx hb d_M_init_13 (by decide) ?_
  refine va_newa (atype := .long) (ty := .long) (a0 := (6, .inr (.inl (fun _ => 0)))) (N' := 6) hx hb (hw _ ww_47) rfl hK hP hD hS hA (fun _ => rfl) (by decide) (by decide) (by decide) (Nat.le_of_ble_eq_true rfl) (Nat.le_of_ble_eq_true rfl) d_M_init_15 (fun q2 c2 H hK hP hD hS => ?_)
  have hP : va_P D vwC [(a0, .inr (3, [.int 0, .ref (q1), .null, .int 0, .int 0, .null, .null, .null, .null, .int 0, .null, .int 0, .null])), (q1, .inl (c1, 6, .inr (.inl (fun _ => 0)))), (q2, .inl (c2, 6, .inr (.inl (fun _ => 0))))] H := hP
  have hD : va_D AA [(a0, .inr (3, [.int 0, .ref (q1), .null, .int 0, .int 0, .null, .null, .null, .null, .int 0, .null, .int 0, .null])), (q1, .inl (c1, 6, .inr (.inl (fun _ => 0)))), (q2, .inl (c2, 6, .inr (.inl (fun _ => 0))))] := hD
  have hK : va_K D vwC [(c1, .long), (c2, .long)] s := hK
  refine W.widen (k := 2) (n := 12) (Nat.le_of_ble_eq_true rfl) (Nat.le_of_ble_eq_true rfl) ?_
  refine va_putF (D := D) (ci := 3) (v := .ref (q2)) (ty := .array .long) (C := R_M) (T := T_M) (N := 13) hx hb hts in_M ft_M ft_M_ok fn_M hown hK hP hD hS 0 rfl rfl 2 (by decide) (hw _ ww_536) (fun _ h9 => h9) rfl hin rfl (by decide +kernel) rfl rfl (Nat.le_of_ble_eq_true rfl) d_M_init_17 (fun H locs hP hD hS => ?_)
  have hP : va_P D vwC [(a0, .inr (3, [.int 0, .ref (q1), .ref (q2), .int 0, .int 0, .null, .null, .null, .null, .int 0, .null, .int 0, .null])), (q1, .inl (c1, 6, .inr (.inl (fun _ => 0)))), (q2, .inl (c2, 6, .inr (.inl (fun _ => 0))))] H := hP
  have hD : va_D AA [(a0, .inr (3, [.int 0, .ref (q1), .ref (q2), .int 0, .int 0, .null, .null, .null, .null, .int 0, .null, .int 0, .null])), (q1, .inl (c1, 6, .inr (.inl (fun _ => 0)))), (q2, .inl (c2, 6, .inr (.inl (fun _ => 0))))] := hD
  refine lv_aload_n hx hb d_M_init_20 rfl (lv_at hl 0 rfl) ?_
  refine lv_bipush (v := 8) hx hb d_M_init_21 (by decide) ?_
  refine va_newa (atype := .long) (ty := .long) (a0 := (8, .inr (.inl (fun _ => 0)))) (N' := 8) hx hb (hw _ ww_47) rfl hK hP hD hS hA (fun _ => rfl) (by decide) (by decide) (by decide) (Nat.le_of_ble_eq_true rfl) (Nat.le_of_ble_eq_true rfl) d_M_init_23 (fun q3 c3 H hK hP hD hS => ?_)
  have hP : va_P D vwC [(a0, .inr (3, [.int 0, .ref (q1), .ref (q2), .int 0, .int 0, .null, .null, .null, .null, .int 0, .null, .int 0, .null])), (q1, .inl (c1, 6, .inr (.inl (fun _ => 0)))), (q2, .inl (c2, 6, .inr (.inl (fun _ => 0)))), (q3, .inl (c3, 8, .inr (.inl (fun _ => 0))))] H := hP
  have hD : va_D AA [(a0, .inr (3, [.int 0, .ref (q1), .ref (q2), .int 0, .int 0, .null, .null, .null, .null, .int 0, .null, .int 0, .null])), (q1, .inl (c1, 6, .inr (.inl (fun _ => 0)))), (q2, .inl (c2, 6, .inr (.inl (fun _ => 0)))), (q3, .inl (c3, 8, .inr (.inl (fun _ => 0))))] := hD
  have hK : va_K D vwC [(c1, .long), (c2, .long), (c3, .long)] s := hK
  refine W.widen (k := 3) (n := 20) (Nat.le_of_ble_eq_true rfl) (Nat.le_of_ble_eq_true rfl) ?_
  refine va_putF (D := D) (ci := 3) (v := .ref (q3)) (ty := .array .long) (C := R_M) (T := T_M) (N := 13) hx hb hts in_M ft_M ft_M_ok fn_M hown hK hP hD hS 0 rfl rfl 5 (by decide) (hw _ ww_539) (fun _ h9 => h9) rfl hin rfl (by decide +kernel) rfl rfl (Nat.le_of_ble_eq_true rfl) d_M_init_25 (fun H locs hP hD hS => ?_)
  have hP : va_P D vwC [(a0, .inr (3, [.int 0, .ref (q1), .ref (q2), .int 0, .int 0, .ref (q3), .null, .null, .null, .int 0, .null, .int 0, .null])), (q1, .inl (c1, 6, .inr (.inl (fun _ => 0)))), (q2, .inl (c2, 6, .inr (.inl (fun _ => 0)))), (q3, .inl (c3, 8, .inr (.inl (fun _ => 0))))] H := hP
  have hD : va_D AA [(a0, .inr (3, [.int 0, .ref (q1), .ref (q2), .int 0, .int 0, .ref (q3), .null, .null, .null, .int 0, .null, .int 0, .null])), (q1, .inl (c1, 6, .inr (.inl (fun _ => 0)))), (q2, .inl (c2, 6, .inr (.inl (fun _ => 0)))), (q3, .inl (c3, 8, .inr (.inl (fun _ => 0))))] := hD
  refine lv_aload_n hx hb d_M_init_28 rfl (lv_at hl 0 rfl) ?_
  refine lv_bipush (v := 8) hx hb d_M_init_29 (by decide) ?_
  refine va_newa (atype := .long) (ty := .long) (a0 := (8, .inr (.inl (fun _ => 0)))) (N' := 8) hx hb (hw _ ww_47) rfl hK hP hD hS hA (fun _ => rfl) (by decide) (by decide) (by decide) (Nat.le_of_ble_eq_true rfl) (Nat.le_of_ble_eq_true rfl) d_M_init_31 (fun q4 c4 H hK hP hD hS => ?_)
  have hP : va_P D vwC [(a0, .inr (3, [.int 0, .ref (q1), .ref (q2), .int 0, .int 0, .ref (q3), .null, .null, .null, .int 0, .null, .int 0, .null])), (q1, .inl (c1, 6, .inr (.inl (fun _ => 0)))), (q2, .inl (c2, 6, .inr (.inl (fun _ => 0)))), (q3, .inl (c3, 8, .inr (.inl (fun _ => 0)))), (q4, .inl (c4, 8, .inr (.inl (fun _ => 0))))] H := hP
  have hD : va_D AA [(a0, .inr (3, [.int 0, .ref (q1), .ref (q2), .int 0, .int 0, .ref (q3), .null, .null, .null, .int 0, .null, .int 0, .null])), (q1, .inl (c1, 6, .inr (.inl (fun _ => 0)))), (q2, .inl (c2, 6, .inr (.inl (fun _ => 0)))), (q3, .inl (c3, 8, .inr (.inl (fun _ => 0)))), (q4, .inl (c4, 8, .inr (.inl (fun _ => 0))))] := hD
  have hK : va_K D vwC [(c1, .long), (c2, .long), (c3, .long), (c4, .long)] s := hK
  refine W.widen (k := 4) (n := 28) (Nat.le_of_ble_eq_true rfl) (Nat.le_of_ble_eq_true rfl) ?_
  refine va_putF (D := D) (ci := 3) (v := .ref (q4)) (ty := .array .long) (C := R_M) (T := T_M) (N := 13) hx hb hts in_M ft_M ft_M_ok fn_M hown hK hP hD hS 0 rfl rfl 6 (by decide) (hw _ ww_540) (fun _ h9 => h9) rfl hin rfl (by decide +kernel) rfl rfl (Nat.le_of_ble_eq_true rfl) d_M_init_33 (fun H locs hP hD hS => ?_)
  have hP : va_P D vwC [(a0, .inr (3, [.int 0, .ref (q1), .ref (q2), .int 0, .int 0, .ref (q3), .ref (q4), .null, .null, .int 0, .null, .int 0, .null])), (q1, .inl (c1, 6, .inr (.inl (fun _ => 0)))), (q2, .inl (c2, 6, .inr (.inl (fun _ => 0)))), (q3, .inl (c3, 8, .inr (.inl (fun _ => 0)))), (q4, .inl (c4, 8, .inr (.inl (fun _ => 0))))] H := hP
  have hD : va_D AA [(a0, .inr (3, [.int 0, .ref (q1), .ref (q2), .int 0, .int 0, .ref (q3), .ref (q4), .null, .null, .int 0, .null, .int 0, .null])), (q1, .inl (c1, 6, .inr (.inl (fun _ => 0)))), (q2, .inl (c2, 6, .inr (.inl (fun _ => 0)))), (q3, .inl (c3, 8, .inr (.inl (fun _ => 0)))), (q4, .inl (c4, 8, .inr (.inl (fun _ => 0))))] := hD
  refine lv_aload_n hx hb d_M_init_36 rfl (lv_at hl 0 rfl) ?_
  refine lv_bipush (v := 8) hx hb d_M_init_37 (by decide) ?_
  refine va_newa (atype := .int) (ty := .int) (a0 := (8, .inl (fun _ => 0))) (N' := 8) hx hb (hw _ ww_48) rfl hK hP hD hS hA (fun _ => rfl) (by decide) (by decide) (by decide) (Nat.le_of_ble_eq_true rfl) (Nat.le_of_ble_eq_true rfl) d_M_init_39 (fun q5 c5 H hK hP hD hS => ?_)
  have hP : va_P D vwC [(a0, .inr (3, [.int 0, .ref (q1), .ref (q2), .int 0, .int 0, .ref (q3), .ref (q4), .null, .null, .int 0, .null, .int 0, .null])), (q1, .inl (c1, 6, .inr (.inl (fun _ => 0)))), (q2, .inl (c2, 6, .inr (.inl (fun _ => 0)))), (q3, .inl (c3, 8, .inr (.inl (fun _ => 0)))), (q4, .inl (c4, 8, .inr (.inl (fun _ => 0)))), (q5, .inl (c5, 8, .inl (fun _ => 0)))] H := hP
  have hD : va_D AA [(a0, .inr (3, [.int 0, .ref (q1), .ref (q2), .int 0, .int 0, .ref (q3), .ref (q4), .null, .null, .int 0, .null, .int 0, .null])), (q1, .inl (c1, 6, .inr (.inl (fun _ => 0)))), (q2, .inl (c2, 6, .inr (.inl (fun _ => 0)))), (q3, .inl (c3, 8, .inr (.inl (fun _ => 0)))), (q4, .inl (c4, 8, .inr (.inl (fun _ => 0)))), (q5, .inl (c5, 8, .inl (fun _ => 0)))] := hD
  have hK : va_K D vwC [(c1, .long), (c2, .long), (c3, .long), (c4, .long), (c5, .int)] s := hK
  refine W.widen (k := 5) (n := 36) (Nat.le_of_ble_eq_true rfl) (Nat.le_of_ble_eq_true rfl) ?_
  refine va_putF (D := D) (ci := 3) (v := .ref (q5)) (ty := .array .int) (C := R_M) (T := T_M) (N := 13) hx hb hts in_M ft_M ft_M_ok fn_M hown hK hP hD hS 0 rfl rfl 7 (by decide) (hw _ ww_541) (fun _ h9 => h9) rfl hin rfl (by decide +kernel) rfl rfl (Nat.le_of_ble_eq_true rfl) d_M_init_41 (fun H locs hP hD hS => ?_)
  have hP : va_P D vwC [(a0, .inr (3, [.int 0, .ref (q1), .ref (q2), .int 0, .int 0, .ref (q3), .ref (q4), .ref (q5), .null, .int 0, .null, .int 0, .null])), (q1, .inl (c1, 6, .inr (.inl (fun _ => 0)))), (q2, .inl (c2, 6, .inr (.inl (fun _ => 0)))), (q3, .inl (c3, 8, .inr (.inl (fun _ => 0)))), (q4, .inl (c4, 8, .inr (.inl (fun _ => 0)))), (q5, .inl (c5, 8, .inl (fun _ => 0)))] H := hP
  have hD : va_D AA [(a0, .inr (3, [.int 0, .ref (q1), .ref (q2), .int 0, .int 0, .ref (q3), .ref (q4), .ref (q5), .null, .int 0, .null, .int 0, .null])), (q1, .inl (c1, 6, .inr (.inl (fun _ => 0)))), (q2, .inl (c2, 6, .inr (.inl (fun _ => 0)))), (q3, .inl (c3, 8, .inr (.inl (fun _ => 0)))), (q4, .inl (c4, 8, .inr (.inl (fun _ => 0)))), (q5, .inl (c5, 8, .inl (fun _ => 0)))] := hD
  refine lv_aload_n hx hb d_M_init_44 rfl (lv_at hl 0 rfl) ?_
  refine lv_bipush (v := 8) hx hb d_M_init_45 (by decide) ?_
  refine va_newa (atype := .int) (ty := .int) (a0 := (8, .inl (fun _ => 0))) (N' := 8) hx hb (hw _ ww_48) rfl hK hP hD hS hA (fun _ => rfl) (by decide) (by decide) (by decide) (Nat.le_of_ble_eq_true rfl) (Nat.le_of_ble_eq_true rfl) d_M_init_47 (fun q6 c6 H hK hP hD hS => ?_)
  have hP : va_P D vwC [(a0, .inr (3, [.int 0, .ref (q1), .ref (q2), .int 0, .int 0, .ref (q3), .ref (q4), .ref (q5), .null, .int 0, .null, .int 0, .null])), (q1, .inl (c1, 6, .inr (.inl (fun _ => 0)))), (q2, .inl (c2, 6, .inr (.inl (fun _ => 0)))), (q3, .inl (c3, 8, .inr (.inl (fun _ => 0)))), (q4, .inl (c4, 8, .inr (.inl (fun _ => 0)))), (q5, .inl (c5, 8, .inl (fun _ => 0))), (q6, .inl (c6, 8, .inl (fun _ => 0)))] H := hP
  have hD : va_D AA [(a0, .inr (3, [.int 0, .ref (q1), .ref (q2), .int 0, .int 0, .ref (q3), .ref (q4), .ref (q5), .null, .int 0, .null, .int 0, .null])), (q1, .inl (c1, 6, .inr (.inl (fun _ => 0)))), (q2, .inl (c2, 6, .inr (.inl (fun _ => 0)))), (q3, .inl (c3, 8, .inr (.inl (fun _ => 0)))), (q4, .inl (c4, 8, .inr (.inl (fun _ => 0)))), (q5, .inl (c5, 8, .inl (fun _ => 0))), (q6, .inl (c6, 8, .inl (fun _ => 0)))] := hD
  have hK : va_K D vwC [(c1, .long), (c2, .long), (c3, .long), (c4, .long), (c5, .int), (c6, .int)] s := hK
  refine W.widen (k := 6) (n := 44) (Nat.le_of_ble_eq_true rfl) (Nat.le_of_ble_eq_true rfl) ?_
  refine va_putF (D := D) (ci := 3) (v := .ref (q6)) (ty := .array .int) (C := R_M) (T := T_M) (N := 13) hx hb hts in_M ft_M ft_M_ok fn_M hown hK hP hD hS 0 rfl rfl 8 (by decide) (hw _ ww_542) (fun _ h9 => h9) rfl hin rfl (by decide +kernel) rfl rfl (Nat.le_of_ble_eq_true rfl) d_M_init_49 (fun H locs hP hD hS => ?_)
  have hP : va_P D vwC [(a0, .inr (3, [.int 0, .ref (q1), .ref (q2), .int 0, .int 0, .ref (q3), .ref (q4), .ref (q5), .ref (q6), .int 0, .null, .int 0, .null])), (q1, .inl (c1, 6, .inr (.inl (fun _ => 0)))), (q2, .inl (c2, 6, .inr (.inl (fun _ => 0)))), (q3, .inl (c3, 8, .inr (.inl (fun _ => 0)))), (q4, .inl (c4, 8, .inr (.inl (fun _ => 0)))), (q5, .inl (c5, 8, .inl (fun _ => 0))), (q6, .inl (c6, 8, .inl (fun _ => 0)))] H := hP
  have hD : va_D AA [(a0, .inr (3, [.int 0, .ref (q1), .ref (q2), .int 0, .int 0, .ref (q3), .ref (q4), .ref (q5), .ref (q6), .int 0, .null, .int 0, .null])), (q1, .inl (c1, 6, .inr (.inl (fun _ => 0)))), (q2, .inl (c2, 6, .inr (.inl (fun _ => 0)))), (q3, .inl (c3, 8, .inr (.inl (fun _ => 0)))), (q4, .inl (c4, 8, .inr (.inl (fun _ => 0)))), (q5, .inl (c5, 8, .inl (fun _ => 0))), (q6, .inl (c6, 8, .inl (fun _ => 0)))] := hD
  refine lv_aload_n hx hb d_M_init_52 rfl (lv_at hl 0 rfl) ?_
  refine lv_bipush (v := 20) hx hb d_M_init_53 (by decide) ?_
  refine va_newa (atype := .int) (ty := .int) (a0 := (20, .inl (fun _ => 0))) (N' := 20) hx hb (hw _ ww_48) rfl hK hP hD hS hA (fun _ => rfl) (by decide) (by decide) (by decide) (Nat.le_of_ble_eq_true rfl) (Nat.le_of_ble_eq_true rfl) d_M_init_55 (fun q7 c7 H hK hP hD hS => ?_)
  have hP : va_P D vwC [(a0, .inr (3, [.int 0, .ref (q1), .ref (q2), .int 0, .int 0, .ref (q3), .ref (q4), .ref (q5), .ref (q6), .int 0, .null, .int 0, .null])), (q1, .inl (c1, 6, .inr (.inl (fun _ => 0)))), (q2, .inl (c2, 6, .inr (.inl (fun _ => 0)))), (q3, .inl (c3, 8, .inr (.inl (fun _ => 0)))), (q4, .inl (c4, 8, .inr (.inl (fun _ => 0)))), (q5, .inl (c5, 8, .inl (fun _ => 0))), (q6, .inl (c6, 8, .inl (fun _ => 0))), (q7, .inl (c7, 20, .inl (fun _ => 0)))] H := hP
  have hD : va_D AA [(a0, .inr (3, [.int 0, .ref (q1), .ref (q2), .int 0, .int 0, .ref (q3), .ref (q4), .ref (q5), .ref (q6), .int 0, .null, .int 0, .null])), (q1, .inl (c1, 6, .inr (.inl (fun _ => 0)))), (q2, .inl (c2, 6, .inr (.inl (fun _ => 0)))), (q3, .inl (c3, 8, .inr (.inl (fun _ => 0)))), (q4, .inl (c4, 8, .inr (.inl (fun _ => 0)))), (q5, .inl (c5, 8, .inl (fun _ => 0))), (q6, .inl (c6, 8, .inl (fun _ => 0))), (q7, .inl (c7, 20, .inl (fun _ => 0)))] := hD
  have hK : va_K D vwC [(c1, .long), (c2, .long), (c3, .long), (c4, .long), (c5, .int), (c6, .int), (c7, .int)] s := hK
  refine W.widen (k := 7) (n := 64) (Nat.le_of_ble_eq_true rfl) (Nat.le_of_ble_eq_true rfl) ?_
  refine va_putF (D := D) (ci := 3) (v := .ref (q7)) (ty := .array .int) (C := R_M) (T := T_M) (N := 13) hx hb hts in_M ft_M ft_M_ok fn_M hown hK hP hD hS 0 rfl rfl 10 (by decide) (hw _ ww_544) (fun _ h9 => h9) rfl hin rfl (by decide +kernel) rfl rfl (Nat.le_of_ble_eq_true rfl) d_M_init_57 (fun H locs hP hD hS => ?_)
  have hP : va_P D vwC [(a0, .inr (3, [.int 0, .ref (q1), .ref (q2), .int 0, .int 0, .ref (q3), .ref (q4), .ref (q5), .ref (q6), .int 0, .ref (q7), .int 0, .null])), (q1, .inl (c1, 6, .inr (.inl (fun _ => 0)))), (q2, .inl (c2, 6, .inr (.inl (fun _ => 0)))), (q3, .inl (c3, 8, .inr (.inl (fun _ => 0)))), (q4, .inl (c4, 8, .inr (.inl (fun _ => 0)))), (q5, .inl (c5, 8, .inl (fun _ => 0))), (q6, .inl (c6, 8, .inl (fun _ => 0))), (q7, .inl (c7, 20, .inl (fun _ => 0)))] H := hP
  have hD : va_D AA [(a0, .inr (3, [.int 0, .ref (q1), .ref (q2), .int 0, .int 0, .ref (q3), .ref (q4), .ref (q5), .ref (q6), .int 0, .ref (q7), .int 0, .null])), (q1, .inl (c1, 6, .inr (.inl (fun _ => 0)))), (q2, .inl (c2, 6, .inr (.inl (fun _ => 0)))), (q3, .inl (c3, 8, .inr (.inl (fun _ => 0)))), (q4, .inl (c4, 8, .inr (.inl (fun _ => 0)))), (q5, .inl (c5, 8, .inl (fun _ => 0))), (q6, .inl (c6, 8, .inl (fun _ => 0))), (q7, .inl (c7, 20, .inl (fun _ => 0)))] := hD
  refine lv_aload_n hx hb d_M_init_60 rfl (lv_at hl 0 rfl) ?_
  refine lv_bipush (v := 16) hx hb d_M_init_61 (by decide) ?_
  refine va_newa (atype := .int) (ty := .int) (a0 := (16, .inl (fun _ => 0))) (N' := 16) hx hb (hw _ ww_48) rfl hK hP hD hS hA (fun _ => rfl) (by decide) (by decide) (by decide) (Nat.le_of_ble_eq_true rfl) (Nat.le_of_ble_eq_true rfl) d_M_init_63 (fun q8 c8 H hK hP hD hS => ?_)
  have hP : va_P D vwC [(a0, .inr (3, [.int 0, .ref (q1), .ref (q2), .int 0, .int 0, .ref (q3), .ref (q4), .ref (q5), .ref (q6), .int 0, .ref (q7), .int 0, .null])), (q1, .inl (c1, 6, .inr (.inl (fun _ => 0)))), (q2, .inl (c2, 6, .inr (.inl (fun _ => 0)))), (q3, .inl (c3, 8, .inr (.inl (fun _ => 0)))), (q4, .inl (c4, 8, .inr (.inl (fun _ => 0)))), (q5, .inl (c5, 8, .inl (fun _ => 0))), (q6, .inl (c6, 8, .inl (fun _ => 0))), (q7, .inl (c7, 20, .inl (fun _ => 0))), (q8, .inl (c8, 16, .inl (fun _ => 0)))] H := hP
  have hD : va_D AA [(a0, .inr (3, [.int 0, .ref (q1), .ref (q2), .int 0, .int 0, .ref (q3), .ref (q4), .ref (q5), .ref (q6), .int 0, .ref (q7), .int 0, .null])), (q1, .inl (c1, 6, .inr (.inl (fun _ => 0)))), (q2, .inl (c2, 6, .inr (.inl (fun _ => 0)))), (q3, .inl (c3, 8, .inr (.inl (fun _ => 0)))), (q4, .inl (c4, 8, .inr (.inl (fun _ => 0)))), (q5, .inl (c5, 8, .inl (fun _ => 0))), (q6, .inl (c6, 8, .inl (fun _ => 0))), (q7, .inl (c7, 20, .inl (fun _ => 0))), (q8, .inl (c8, 16, .inl (fun _ => 0)))] := hD
  have hK : va_K D vwC [(c1, .long), (c2, .long), (c3, .long), (c4, .long), (c5, .int), (c6, .int), (c7, .int), (c8, .int)] s := hK
  refine W.widen (k := 8) (n := 80) (Nat.le_of_ble_eq_true rfl) (Nat.le_of_ble_eq_true rfl) ?_
  refine va_putF (D := D) (ci := 3) (v := .ref (q8)) (ty := .array .int) (C := R_M) (T := T_M) (N := 13) hx hb hts in_M ft_M ft_M_ok fn_M hown hK hP hD hS 0 rfl rfl 12 (by decide) (hw _ ww_546) (fun _ h9 => h9) rfl hin rfl (by decide +kernel) rfl rfl (Nat.le_of_ble_eq_true rfl) d_M_init_65 (fun H locs hP hD hS => ?_)
  have hP : va_P D vwC [(a0, .inr (3, [.int 0, .ref (q1), .ref (q2), .int 0, .int 0, .ref (q3), .ref (q4), .ref (q5), .ref (q6), .int 0, .ref (q7), .int 0, .ref (q8)])), (q1, .inl (c1, 6, .inr (.inl (fun _ => 0)))), (q2, .inl (c2, 6, .inr (.inl (fun _ => 0)))), (q3, .inl (c3, 8, .inr (.inl (fun _ => 0)))), (q4, .inl (c4, 8, .inr (.inl (fun _ => 0)))), (q5, .inl (c5, 8, .inl (fun _ => 0))), (q6, .inl (c6, 8, .inl (fun _ => 0))), (q7, .inl (c7, 20, .inl (fun _ => 0))), (q8, .inl (c8, 16, .inl (fun _ => 0)))] H := hP
  have hD : va_D AA [(a0, .inr (3, [.int 0, .ref (q1), .ref (q2), .int 0, .int 0, .ref (q3), .ref (q4), .ref (q5), .ref (q6), .int 0, .ref (q7), .int 0, .ref (q8)])), (q1, .inl (c1, 6, .inr (.inl (fun _ => 0)))), (q2, .inl (c2, 6, .inr (.inl (fun _ => 0)))), (q3, .inl (c3, 8, .inr (.inl (fun _ => 0)))), (q4, .inl (c4, 8, .inr (.inl (fun _ => 0)))), (q5, .inl (c5, 8, .inl (fun _ => 0))), (q6, .inl (c6, 8, .inl (fun _ => 0))), (q7, .inl (c7, 20, .inl (fun _ => 0))), (q8, .inl (c8, 16, .inl (fun _ => 0)))] := hD
  obtain ⟨A, hAd⟩ : ∃ A : Nat → Nat, A = fun k => [a0, q1, q2, q3, q4, q5, q6, q7, q8].getD k 0 := ⟨_, rfl⟩
  obtain ⟨cc, hcd⟩ : ∃ cc : Nat → ClassId, cc = fun k => [0, c1, c2, c3, c4, c5, c6, c7, c8].getD k 0 := ⟨_, rfl⟩
  have hA0 : A 0 = a0 := by rw [hAd]; rfl
  have hP : va_P D vwC (wM A cc zM) H := by subst hAd; subst hcd; exact hP
  have hD : va_D AA (wM A cc zM) := by subst hAd; subst hcd; exact hD
  have hK : va_K D vwC (kM cc) s := by subst hcd; exact hK
  have hl : lv_has ls 2 [(0, .ref (A 0))] := by rw [hA0]; exact hl
  unfold f_M_init at hF
  refine lv_iconst (v := 0) hx hb d_M_init_68 (by decide) ?_
  refine lv_istore_n hx hb d_M_init_69 rfl hl (by decide) (lv' := [(1, .int 0), (0, .ref (A 0))]) rfl (fun ls hl => ?_)
  obtain ⟨⟨o4, o5⟩, q11, hF⟩ := Option.bind_eq_some_iff.mp hF
  have k6 : ∀ (H : Heap) (locs : List Loc) (ls : Array Slot), va_P D vwC (wM A cc o4) H → va_D AA (wM A cc o4) → va_S AA s.heap H locs → lv_has ls 2 [(1, .int o5), (0, .ref (A 0))] → W p l e rm_M_init s m ([Value.ref a0] : List Value).toArray below meth c H locs 8 80 (MQ below (va_Qv (fun u : sA => u.1 0 = a0) (bi D (fun A cc => wM A cc gr) kM AA) AA) ([Value.ref a0] : List Value).toArray s 8 80 AA) (F0 m 91 ls []) := by
    intro H locs ls hP hD hS hl
    obtain rfl := Option.some.inj hF
    exact W.vret hx hb hr (fun t ht hW => ⟨⟨(A, cc), rfl, hA0, by rw [ht]; exact hP, va_K.moved hW.alike hK, hD⟩, hS.F ht⟩) hS.2.2 d_M_init_91
  clear hF
  have k3 : ∀ (n : Nat) (g2 : sM) (u1 : Int32) (H : Heap) (locs : List Loc) (ls : Array Slot), va_P D vwC (wM A cc g2) H → va_D AA (wM A cc g2) → va_S AA s.heap H locs → lv_has ls 2 [(1, .int u1), (0, .ref (A 0))] → f_M_init_70  n g2 u1 = some (o4, o5) → W p l e rm_M_init s m ([Value.ref a0] : List Value).toArray below meth c H locs 8 80 (MQ below (va_Qv (fun u : sA => u.1 0 = a0) (bi D (fun A cc => wM A cc gr) kM AA) AA) ([Value.ref a0] : List Value).toArray s 8 80 AA) (F0 m 70 ls []) := by
    intro n
    induction n with
    | zero => intro g2 u1 H locs ls hP hD hS hl hF; cases hF
    | succ n ih =>
      intro g2 u1 H locs ls hP hD hS hl hF
      rw [f_M_init_70] at hF
      refine lv_iload_n hx hb d_M_init_70 rfl (lv_at hl 0 rfl) ?_
      refine lv_bipush (v := 6) hx hb d_M_init_71 (by decide) ?_
      refine lv_icmp_ge hx hb d_M_init_73 (tgt := 91) (by decide) (fun h9 => ?_) (fun h9 => ?_)
      · have hF := (if_pos h9).symm.trans hF
        cases Option.some.inj hF
        exact k6 _ _ ls hP hD hS (lv_sub hl [0, 1] rfl)
      · have hF := (if_neg h9).symm.trans hF
        refine lv_aload_n hx hb d_M_init_76 rfl (lv_at hl 1 rfl) ?_
        refine va_get (D := D) (ci := 3) (v := .ref (A 1)) (C := R_M) (T := T_M) (N := 13) hx hb hts in_M hown hK hP 0 rfl rfl 1 (by decide) (hw _ ww_535) (fun _ h9 => h9) rfl d_M_init_77 ?_
        refine lv_iload_n hx hb d_M_init_80 rfl (lv_at hl 0 rfl) ?_
        refine lv_ldc2 (v := (-1)) hx hb hown (hw _ ww_533) d_M_init_81 ?_
        by_cases h9 : u1 < 0 ∨ 6 ≤ Int32.toNatClampNeg u1
        · have h0 := (if_pos h9).symm.trans hF; cases h0
        have hF := (if_neg h9).symm.trans hF
        refine va_last hx hb hK hP hD hS 1 0 rfl rfl h9 d_M_init_84 (fun H locs hP hD hS => ?_)
        have hP : va_P D vwC (wM A cc (g2.1, (vp_updL g2.2.1 (Int32.toNatClampNeg u1) (-1)), g2.2.2.1, g2.2.2.2.1, g2.2.2.2.2.1, g2.2.2.2.2.2.1, g2.2.2.2.2.2.2.1, g2.2.2.2.2.2.2.2.1, g2.2.2.2.2.2.2.2.2.1, g2.2.2.2.2.2.2.2.2.2.1, g2.2.2.2.2.2.2.2.2.2.2.1, g2.2.2.2.2.2.2.2.2.2.2.2.1, g2.2.2.2.2.2.2.2.2.2.2.2.2)) H := hP
        have hD : va_D AA (wM A cc (g2.1, (vp_updL g2.2.1 (Int32.toNatClampNeg u1) (-1)), g2.2.2.1, g2.2.2.2.1, g2.2.2.2.2.1, g2.2.2.2.2.2.1, g2.2.2.2.2.2.2.1, g2.2.2.2.2.2.2.2.1, g2.2.2.2.2.2.2.2.2.1, g2.2.2.2.2.2.2.2.2.2.1, g2.2.2.2.2.2.2.2.2.2.2.1, g2.2.2.2.2.2.2.2.2.2.2.2.1, g2.2.2.2.2.2.2.2.2.2.2.2.2)) := hD
        obtain ⟨v10, e_v10, hF⟩ := Option.bind_eq_some_iff.mp hF
        refine lv_iinc hx hb d_M_init_85 hl (k := 0) (v := v10) rfl ((show _ = u1 + 1 from rfl).trans (Option.some.inj e_v10)) (by decide) (lv' := [(1, .int v10), (0, .ref (A 0))]) rfl (fun ls hl => ?_)
        refine lv_goto hx hb d_M_init_88 (tgt := 70) (by decide) ?_
        exact ih (g2.1, (vp_updL g2.2.1 (Int32.toNatClampNeg u1) (-1)), g2.2.2.1, g2.2.2.2.1, g2.2.2.2.2.1, g2.2.2.2.2.2.1, g2.2.2.2.2.2.2.1, g2.2.2.2.2.2.2.2.1, g2.2.2.2.2.2.2.2.2.1, g2.2.2.2.2.2.2.2.2.2.1, g2.2.2.2.2.2.2.2.2.2.2.1, g2.2.2.2.2.2.2.2.2.2.2.2.1, g2.2.2.2.2.2.2.2.2.2.2.2.2) v10 _ _ ls hP hD hS (lv_sub hl [0, 1] rfl) hF
  exact k3 64 zM 0 _ _ ls hP hD hS (lv_sub hl [0, 1] rfl) q11
