def f_M_mod (a0 : Int64) (a1 : Int64) : Option Int64 := if a1 = 0 then none else (Option.bind (some (a0 - a0 / a1 * a1)) (fun v2 => Option.bind (if 0 ≤ (lg_cmp v2 0) then (some (v2) : Option (Int64)) else (some (v2 + a1))) (fun j3 => some (j3))))
abbrev rm_M_mod : Room := { frames := 0, cells := 0, slots := 0, locals := 0 }
set_option maxHeartbeats 4000000 in
set_option maxRecDepth 100000 in
theorem k_M_mod (l : Launch) (a0 : Int64) (a1 : Int64) (r : Int64) (hF : f_M_mod a0 a1 = some r) : Met l y_M_mod (Cond.code y_M_mod b_M_mod 6 (some .long) :: wa) rm_M_mod (pcs [.long a0, .long a1]) (vp_Sl (fun z => z = r)) 0 0 (fun _ => False) := by
  refine Met.ofW (cc := b_M_mod) (maxL := 6) (ret := (some .long)) (by decide) rfl ?_
  intro p e s m args below meth c s₁ B hml hv
  obtain ⟨rfl, hN⟩ := hv
  have hx := B.exec
  have hb := B.bytes
  have hr := B.returns
  have hts := atoms_spec (ws := Cond.code y_M_mod b_M_mod 6 (some .long) :: wa) B.pre
  have hw : ∀ w ∈ wa, w.before _ s = true := fun w h => hts w (List.mem_cons_of_mem _ h)
  have hown : s.vm.findClass R_M = some m.cls := findClass_of_methodNamed B.named
  have hlocks := B.notSynchronized
  have hl := lv_entry ([.long a0, .long a1]) (n := 6) (Nat.le_of_ble_eq_true rfl)
  rw [lg_entry_eq]
  generalize (lg_sl ([.long a0, .long a1]) ++ List.replicate (6 - (lg_sl ([.long a0, .long a1])).length) Slot.unset).toArray = ls at hl ⊢
  have hl : lv_has ls 6 [(0, .long a0), (2, .long a1)] := hl
  unfold f_M_mod at hF
  refine lv_lload_n hx hb d_M_mod_0 rfl (lv_at hl 0 rfl) ?_
  refine lv_lload_n hx hb d_M_mod_1 rfl (lv_at hl 1 rfl) ?_
  by_cases h1 : a1 = 0
  · have h0 := (if_pos h1).symm.trans hF; cases h0
  have hF := (if_neg h1).symm.trans hF
  refine lv_lrem hx hb d_M_mod_2 h1 ?_
  obtain ⟨v2, e_v2, hF⟩ := Option.bind_eq_some_iff.mp hF
  refine nm_l (Option.some.inj e_v2) ?_
  refine lv_lstore hx hb d_M_mod_3 hl (by decide) (lv' := [(4, .long v2), (0, .long a0), (2, .long a1)]) rfl (fun ls hl => ?_)
  refine lv_lload hx hb d_M_mod_5 (lv_at hl 0 rfl) ?_
  refine lv_lconst (v := 0) hx hb d_M_mod_7 (by decide) ?_
  refine W.lcmp hx hb d_M_mod_8 ?_
  obtain ⟨j3, q5, hF⟩ := Option.bind_eq_some_iff.mp hF
  have k4 : ∀ (ls : Array Slot), lv_has ls 6 [] → W p l e rm_M_mod s m ([Value.long a0, Value.long a1] : List Value).toArray below meth c s.heap [] 0 0 (MQ below (vp_Sl (fun z => z = r)) ([Value.long a0, Value.long a1] : List Value).toArray s 0 0 (fun _ => False)) (F0 m 21 ls [.long j3]) := by
    intro ls hl
    obtain rfl := Option.some.inj hF
    exact W.lret hx hb hr (fun t ht hW => ⟨_, rfl, rfl, ht⟩) (fun _ h => nomatch h) d_M_mod_21
  clear hF
  have hF := q5
  refine lv_if_ge hx hb d_M_mod_9 (tgt := 19) (by decide) (fun h9 => ?_) (fun h9 => ?_)
  · have hF := (if_pos h9).symm.trans hF
    refine lv_lload hx hb d_M_mod_19 (lv_at hl 0 rfl) ?_
    obtain rfl := Option.some.inj hF
    exact k4 ls (lv_sub hl [] rfl)
  · have hF := (if_neg h9).symm.trans hF
    refine lv_lload hx hb d_M_mod_12 (lv_at hl 0 rfl) ?_
    refine lv_lload_n hx hb d_M_mod_14 rfl (lv_at hl 2 rfl) ?_
    refine lv_ladd hx hb d_M_mod_15 ?_
    refine lv_goto hx hb d_M_mod_16 (tgt := 21) (by decide) ?_
    obtain rfl := Option.some.inj hF
    exact k4 ls (lv_sub hl [] rfl)
def f_M_power_14 (a2 : Int64) : Nat → Int64 → Int64 → Int64 → Option (Int64 × Int64 × Int64)
  | 0, _, _, _ => none
  | n + 1, u2, u3, u4 => if (lg_cmp u2 0) ≤ 0 then (some (u2, u3, u4)) else (Option.bind (if (lg_cmp (u2 - u2 / 2 * 2) 1) = 0 then (if a2 = 0 then none else (some ((u4 * u3) - (u4 * u3) / a2 * a2)) : Option (Int64)) else (some (u4))) (fun j12 => if a2 = 0 then none else (Option.bind (some ((u3 * u3) - (u3 * u3) / a2 * a2)) (fun v17 => Option.bind (some (u2 / 2)) (fun v18 => f_M_power_14 a2 n v18 v17 j12)))))
def f_M_power (a0 : Int64) (a1 : Int64) (a2 : Int64) : Option Int64 := Option.bind (f_M_mod a0 a2) (fun r1 => Option.bind (f_M_power_14 a2 64 a1 r1 1) (fun t21 => match t21 with | (o6, o7, o8) => (some (o8))))
abbrev rm_M_power : Room := { frames := 1, cells := 0, slots := 0, locals := 25 }
set_option maxHeartbeats 4000000 in
set_option maxRecDepth 100000 in
theorem k_M_power (l : Launch) (a0 : Int64) (a1 : Int64) (a2 : Int64) (r : Int64) (hF : f_M_power a0 a1 a2 = some r) : Met l y_M_power (Cond.code y_M_power b_M_power 12 (some .long) :: wa) rm_M_power (pcs [.long a0, .long a1, .long a2]) (vp_Sl (fun z => z = r)) 0 0 (fun _ => False) := by
  refine Met.ofW (cc := b_M_power) (maxL := 12) (ret := (some .long)) (by decide) rfl ?_
  intro p e s m args below meth c s₁ B hml hv
  obtain ⟨rfl, hN⟩ := hv
  have hx := B.exec
  have hb := B.bytes
  have hr := B.returns
  have hts := atoms_spec (ws := Cond.code y_M_power b_M_power 12 (some .long) :: wa) B.pre
  have hw : ∀ w ∈ wa, w.before _ s = true := fun w h => hts w (List.mem_cons_of_mem _ h)
  have hown : s.vm.findClass R_M = some m.cls := findClass_of_methodNamed B.named
  have hlocks := B.notSynchronized
  have hl := lv_entry ([.long a0, .long a1, .long a2]) (n := 12) (Nat.le_of_ble_eq_true rfl)
  rw [lg_entry_eq]
  generalize (lg_sl ([.long a0, .long a1, .long a2]) ++ List.replicate (12 - (lg_sl ([.long a0, .long a1, .long a2])).length) Slot.unset).toArray = ls at hl ⊢
  have hl : lv_has ls 12 [(0, .long a0), (2, .long a1), (4, .long a2)] := hl
  unfold f_M_power at hF
  refine lv_lconst (v := 1) hx hb d_M_power_0 (by decide) ?_
  refine lv_lstore hx hb d_M_power_1 hl (by decide) (lv' := [(6, .long 1), (0, .long a0), (2, .long a1), (4, .long a2)]) rfl (fun ls hl => ?_)
  refine lv_lload_n hx hb d_M_power_3 rfl (lv_at hl 1 rfl) ?_
  refine lv_lload hx hb d_M_power_4 (lv_at hl 3 rfl) ?_
  obtain ⟨r1, e_r1, hF⟩ := Option.bind_eq_some_iff.mp hF
  refine vp_callSl (va_runS (As := [.long a0, .long a2]) (rest := []) ⟨hx, hb, hml, hown, hts⟩ (k_M_mod l a0 a2 r1 e_r1) (va_cwS 2 hts (ga_S ww_609 ww_610 ww_4 ww_611) rfl rfl rfl (by decide +kernel) ⟨by decide, by decide⟩) (pcs_pre hN) rfl rfl hl.1 rfl (lv_room (Nat.le_of_ble_eq_true rfl)) d_M_power_6 ⟨Nat.zero_le _, Nat.zero_le _⟩).run (fun z9 hz9 => ?_)
  obtain rfl : r1 = z9 := hz9.symm
  refine lv_lstore hx hb d_M_power_9 hl (by decide) (lv' := [(8, .long r1), (6, .long 1), (0, .long a0), (2, .long a1), (4, .long a2)]) rfl (fun ls hl => ?_)
  refine lv_lload_n hx hb d_M_power_11 rfl (lv_at hl 3 rfl) ?_
  refine lv_lstore hx hb d_M_power_12 hl (by decide) (lv' := [(10, .long a1), (8, .long r1), (6, .long 1), (0, .long a0), (2, .long a1), (4, .long a2)]) rfl (fun ls hl => ?_)
  obtain ⟨⟨o6, o7, o8⟩, q20, hF⟩ := Option.bind_eq_some_iff.mp hF
  have k9 : ∀ (ls : Array Slot), lv_has ls 12 [(10, .long o6), (8, .long o7), (6, .long o8), (4, .long a2)] → W p l e rm_M_power s m ([Value.long a0, Value.long a1, Value.long a2] : List Value).toArray below meth c s.heap [] 0 0 (MQ below (vp_Sl (fun z => z = r)) ([Value.long a0, Value.long a1, Value.long a2] : List Value).toArray s 0 0 (fun _ => False)) (F0 m 68 ls []) := by
    intro ls hl
    refine lv_lload hx hb d_M_power_68 (lv_at hl 2 rfl) ?_
    obtain rfl := Option.some.inj hF
    exact W.lret hx hb hr (fun t ht hW => ⟨_, rfl, rfl, ht⟩) (fun _ h => nomatch h) d_M_power_70
  clear hF
  have k5 : ∀ (n : Nat) (u2 : Int64) (u3 : Int64) (u4 : Int64) (ls : Array Slot), lv_has ls 12 [(10, .long u2), (8, .long u3), (6, .long u4), (4, .long a2)] → f_M_power_14 a2 n u2 u3 u4 = some (o6, o7, o8) → W p l e rm_M_power s m ([Value.long a0, Value.long a1, Value.long a2] : List Value).toArray below meth c s.heap [] 0 0 (MQ below (vp_Sl (fun z => z = r)) ([Value.long a0, Value.long a1, Value.long a2] : List Value).toArray s 0 0 (fun _ => False)) (F0 m 14 ls []) := by
    intro n
    induction n with
    | zero => intro u2 u3 u4 ls hl hF; cases hF
    | succ n ih =>
      intro u2 u3 u4 ls hl hF
      rw [f_M_power_14] at hF
      refine lv_lload hx hb d_M_power_14 (lv_at hl 0 rfl) ?_
      refine lv_lconst (v := 0) hx hb d_M_power_16 (by decide) ?_
      refine W.lcmp hx hb d_M_power_17 ?_
      refine lv_if_le hx hb d_M_power_18 (tgt := 68) (by decide) (fun h9 => ?_) (fun h9 => ?_)
      · have hF := (if_pos h9).symm.trans hF
        cases Option.some.inj hF
        exact k9 ls (lv_sub hl [0, 1, 2, 3] rfl)
      · have hF := (if_neg h9).symm.trans hF
        refine lv_lload hx hb d_M_power_21 (lv_at hl 0 rfl) ?_
        refine lv_ldc2 (v := 2) hx hb hown (hw _ ww_593) d_M_power_23 ?_
        refine lv_lrem hx hb d_M_power_26 (by decide) ?_
        refine lv_lconst (v := 1) hx hb d_M_power_27 (by decide) ?_
        refine W.lcmp hx hb d_M_power_28 ?_
        obtain ⟨j12, q14, hF⟩ := Option.bind_eq_some_iff.mp hF
        have k13 : ∀ (ls : Array Slot), lv_has ls 12 [(10, .long u2), (8, .long u3), (4, .long a2)] → W p l e rm_M_power s m ([Value.long a0, Value.long a1, Value.long a2] : List Value).toArray below meth c s.heap [] 0 0 (MQ below (vp_Sl (fun z => z = r)) ([Value.long a0, Value.long a1, Value.long a2] : List Value).toArray s 0 0 (fun _ => False)) (F0 m 45 ls [.long j12]) := by
          intro ls hl
          refine lv_lstore hx hb d_M_power_45 hl (by decide) (lv' := [(6, .long j12), (10, .long u2), (8, .long u3), (4, .long a2)]) rfl (fun ls hl => ?_)
          refine lv_lload hx hb d_M_power_47 (lv_at hl 2 rfl) ?_
          refine lv_lload hx hb d_M_power_49 (lv_at hl 2 rfl) ?_
          refine lv_lmul hx hb d_M_power_51 ?_
          refine lv_lload hx hb d_M_power_52 (lv_at hl 3 rfl) ?_
          by_cases h16 : a2 = 0
          · have h0 := (if_pos h16).symm.trans hF; cases h0
          have hF := (if_neg h16).symm.trans hF
          refine lv_lrem hx hb d_M_power_54 h16 ?_
          obtain ⟨v17, e_v17, hF⟩ := Option.bind_eq_some_iff.mp hF
          refine nm_l (Option.some.inj e_v17) ?_
          refine lv_lstore hx hb d_M_power_55 hl (by decide) (lv' := [(8, .long v17), (6, .long j12), (10, .long u2), (4, .long a2)]) rfl (fun ls hl => ?_)
          refine lv_lload hx hb d_M_power_57 (lv_at hl 2 rfl) ?_
          refine lv_ldc2 (v := 2) hx hb hown (hw _ ww_593) d_M_power_59 ?_
          refine lv_ldiv hx hb d_M_power_62 (by decide) ?_
          obtain ⟨v18, e_v18, hF⟩ := Option.bind_eq_some_iff.mp hF
          refine nm_l (Option.some.inj e_v18) ?_
          refine lv_lstore hx hb d_M_power_63 hl (by decide) (lv' := [(10, .long v18), (8, .long v17), (6, .long j12), (4, .long a2)]) rfl (fun ls hl => ?_)
          refine lv_goto hx hb d_M_power_65 (tgt := 14) (by decide) ?_
          exact ih v18 v17 j12 ls (lv_sub hl [0, 1, 2, 3] rfl) hF
        clear hF
        have hF := q14
        refine lv_if_ne hx hb d_M_power_29 (tgt := 43) (by decide) (fun h9 => ?_) (fun h9 => ?_)
        · have hF := (if_neg h9).symm.trans hF
          refine lv_lload hx hb d_M_power_43 (lv_at hl 2 rfl) ?_
          obtain rfl := Option.some.inj hF
          exact k13 ls (lv_sub hl [0, 1, 3] rfl)
        · have hF := (if_pos h9).symm.trans hF
          refine lv_lload hx hb d_M_power_32 (lv_at hl 2 rfl) ?_
          refine lv_lload hx hb d_M_power_34 (lv_at hl 1 rfl) ?_
          refine lv_lmul hx hb d_M_power_36 ?_
          refine lv_lload hx hb d_M_power_37 (lv_at hl 3 rfl) ?_
          by_cases h19 : a2 = 0
          · have h0 := (if_pos h19).symm.trans hF; cases h0
          have hF := (if_neg h19).symm.trans hF
          refine lv_lrem hx hb d_M_power_39 h19 ?_
          refine lv_goto hx hb d_M_power_40 (tgt := 45) (by decide) ?_
          obtain rfl := Option.some.inj hF
          exact k13 ls (lv_sub hl [0, 1, 3] rfl)
  exact k5 64 a1 r1 1 ls (lv_sub hl [0, 1, 2, 5] rfl) q20
def f_M_quotient (a0 : Int64) (a1 : Int64) (a2 : Int64) : Option Int64 := Option.bind (f_M_mod a0 a2) (fun r1 => Option.bind (f_M_power a1 (a2 - 2) a2) (fun r2 => if a2 = 0 then none else (some ((r1 * r2) - (r1 * r2) / a2 * a2))))
abbrev rm_M_quotient : Room := { frames := 2, cells := 0, slots := 0, locals := 56 }
set_option maxHeartbeats 4000000 in
set_option maxRecDepth 100000 in
theorem k_M_quotient (l : Launch) (a0 : Int64) (a1 : Int64) (a2 : Int64) (r : Int64) (hF : f_M_quotient a0 a1 a2 = some r) : Met l y_M_quotient (Cond.code y_M_quotient b_M_quotient 6 (some .long) :: wa) rm_M_quotient (pcs [.long a0, .long a1, .long a2]) (vp_Sl (fun z => z = r)) 0 0 (fun _ => False) := by
  refine Met.ofW (cc := b_M_quotient) (maxL := 6) (ret := (some .long)) (by decide) rfl ?_
  intro p e s m args below meth c s₁ B hml hv
  obtain ⟨rfl, hN⟩ := hv
  have hx := B.exec
  have hb := B.bytes
  have hr := B.returns
  have hts := atoms_spec (ws := Cond.code y_M_quotient b_M_quotient 6 (some .long) :: wa) B.pre
  have hw : ∀ w ∈ wa, w.before _ s = true := fun w h => hts w (List.mem_cons_of_mem _ h)
  have hown : s.vm.findClass R_M = some m.cls := findClass_of_methodNamed B.named
  have hlocks := B.notSynchronized
  have hl := lv_entry ([.long a0, .long a1, .long a2]) (n := 6) (Nat.le_of_ble_eq_true rfl)
  rw [lg_entry_eq]
  generalize (lg_sl ([.long a0, .long a1, .long a2]) ++ List.replicate (6 - (lg_sl ([.long a0, .long a1, .long a2])).length) Slot.unset).toArray = ls at hl ⊢
  have hl : lv_has ls 6 [(0, .long a0), (2, .long a1), (4, .long a2)] := hl
  unfold f_M_quotient at hF
  refine lv_lload_n hx hb d_M_quotient_0 rfl (lv_at hl 0 rfl) ?_
  refine lv_lload hx hb d_M_quotient_1 (lv_at hl 2 rfl) ?_
  obtain ⟨r1, e_r1, hF⟩ := Option.bind_eq_some_iff.mp hF
  refine vp_callSl (va_runS (As := [.long a0, .long a2]) (rest := []) ⟨hx, hb, hml, hown, hts⟩ (k_M_mod l a0 a2 r1 e_r1) (va_cwS 2 hts (ga_S ww_609 ww_610 ww_4 ww_611) rfl rfl rfl (by decide +kernel) ⟨by decide, by decide⟩) (pcs_pre hN) rfl rfl hl.1 rfl (lv_room (Nat.le_of_ble_eq_true rfl)) d_M_quotient_3 ⟨Nat.zero_le _, Nat.zero_le _⟩).run (fun z9 hz9 => ?_)
  obtain rfl : r1 = z9 := hz9.symm
  refine lv_lload_n hx hb d_M_quotient_6 rfl (lv_at hl 1 rfl) ?_
  refine lv_lload hx hb d_M_quotient_7 (lv_at hl 2 rfl) ?_
  refine lv_ldc2 (v := 2) hx hb hown (hw _ ww_593) d_M_quotient_9 ?_
  refine lv_lsub hx hb d_M_quotient_12 ?_
  refine lv_lload hx hb d_M_quotient_13 (lv_at hl 2 rfl) ?_
  obtain ⟨r2, e_r2, hF⟩ := Option.bind_eq_some_iff.mp hF
  refine vp_callSl (va_runS (As := [.long a1, .long (a2 - 2), .long a2]) (rest := [.long r1]) ⟨hx, hb, hml, hown, hts⟩ (k_M_power l a1 (a2 - 2) a2 r2 e_r2) (va_cwS 3 hts (ga_S ww_612 ww_613 ww_4 ww_614) rfl rfl rfl (by decide +kernel) ⟨by decide, by decide⟩) (pcs_pre hN) rfl rfl hl.1 rfl (lv_room (Nat.le_of_ble_eq_true rfl)) d_M_quotient_15 ⟨Nat.zero_le _, Nat.zero_le _⟩).run (fun z9 hz9 => ?_)
  obtain rfl : r2 = z9 := hz9.symm
  refine lv_lmul hx hb d_M_quotient_18 ?_
  refine lv_lload hx hb d_M_quotient_19 (lv_at hl 2 rfl) ?_
  by_cases h3 : a2 = 0
  · have h0 := (if_pos h3).symm.trans hF; cases h0
  have hF := (if_neg h3).symm.trans hF
  refine lv_lrem hx hb d_M_quotient_21 h3 ?_
  obtain rfl := Option.some.inj hF
  exact W.lret hx hb hr (fun t ht hW => ⟨_, rfl, rfl, ht⟩) (fun _ h => nomatch h) d_M_quotient_22
def f_M_h (a0 : Int64) (a1 : Int64) : Option Int64 := Option.bind (some (((a0 ^^^ 5903417616886299669) * 6364136223846793005) + a1)) (fun v1 => Option.bind (some (v1 ^^^ ((Int64.toUInt64 v1 >>> ((Int32.toInt64 31).toUInt64 &&& Int64.toUInt64 63)).toInt64))) (fun v2 => Option.bind (some (v2 * 2685821657736338717)) (fun v3 => some (v3 ^^^ ((Int64.toUInt64 v3 >>> ((Int32.toInt64 28).toUInt64 &&& Int64.toUInt64 63)).toInt64)))))
abbrev rm_M_h : Room := { frames := 0, cells := 0, slots := 0, locals := 0 }
set_option maxHeartbeats 4000000 in
set_option maxRecDepth 100000 in
theorem k_M_h (l : Launch) (a0 : Int64) (a1 : Int64) (r : Int64) (hF : f_M_h a0 a1 = some r) : Met l y_M_h (Cond.code y_M_h b_M_h 6 (some .long) :: wa) rm_M_h (pcs [.long a0, .long a1]) (vp_Sl (fun z => z = r)) 0 0 (fun _ => False) := by
  refine Met.ofW (cc := b_M_h) (maxL := 6) (ret := (some .long)) (by decide) rfl ?_
  intro p e s m args below meth c s₁ B hml hv
  obtain ⟨rfl, hN⟩ := hv
  have hx := B.exec
  have hb := B.bytes
  have hr := B.returns
  have hts := atoms_spec (ws := Cond.code y_M_h b_M_h 6 (some .long) :: wa) B.pre
  have hw : ∀ w ∈ wa, w.before _ s = true := fun w h => hts w (List.mem_cons_of_mem _ h)
  have hown : s.vm.findClass R_M = some m.cls := findClass_of_methodNamed B.named
  have hlocks := B.notSynchronized
  have hl := lv_entry ([.long a0, .long a1]) (n := 6) (Nat.le_of_ble_eq_true rfl)
  rw [lg_entry_eq]
  generalize (lg_sl ([.long a0, .long a1]) ++ List.replicate (6 - (lg_sl ([.long a0, .long a1])).length) Slot.unset).toArray = ls at hl ⊢
  have hl : lv_has ls 6 [(0, .long a0), (2, .long a1)] := hl
  unfold f_M_h at hF
  refine lv_lload_n hx hb d_M_h_0 rfl (lv_at hl 0 rfl) ?_
  refine lv_ldc2 (v := 5903417616886299669) hx hb hown (hw _ ww_677) d_M_h_1 ?_
  refine lv_lxor hx hb d_M_h_4 ?_
  refine lv_ldc2 (v := 6364136223846793005) hx hb hown (hw _ ww_678) d_M_h_5 ?_
  refine lv_lmul hx hb d_M_h_8 ?_
  refine lv_lload_n hx hb d_M_h_9 rfl (lv_at hl 1 rfl) ?_
  refine lv_ladd hx hb d_M_h_10 ?_
  obtain ⟨v1, e_v1, hF⟩ := Option.bind_eq_some_iff.mp hF
  refine nm_l (Option.some.inj e_v1) ?_
  refine lv_lstore hx hb d_M_h_11 hl (by decide) (lv' := [(4, .long v1), (0, .long a0), (2, .long a1)]) rfl (fun ls hl => ?_)
  refine lv_lload hx hb d_M_h_13 (lv_at hl 0 rfl) ?_
  refine lv_lload hx hb d_M_h_15 (lv_at hl 0 rfl) ?_
  refine lv_bipush (v := 31) hx hb d_M_h_17 (by decide) ?_
  refine lv_lushr (v := (Int64.toUInt64 v1 >>> ((Int32.toInt64 31).toUInt64 &&& Int64.toUInt64 63)).toInt64) hx hb d_M_h_19 rfl ?_
  refine lv_lxor hx hb d_M_h_20 ?_
  obtain ⟨v2, e_v2, hF⟩ := Option.bind_eq_some_iff.mp hF
  refine nm_l (Option.some.inj e_v2) ?_
  refine lv_lstore hx hb d_M_h_21 hl (by decide) (lv' := [(4, .long v2), (0, .long a0), (2, .long a1)]) rfl (fun ls hl => ?_)
  refine lv_lload hx hb d_M_h_23 (lv_at hl 0 rfl) ?_
  refine lv_ldc2 (v := 2685821657736338717) hx hb hown (hw _ ww_679) d_M_h_25 ?_
  refine lv_lmul hx hb d_M_h_28 ?_
  obtain ⟨v3, e_v3, hF⟩ := Option.bind_eq_some_iff.mp hF
  refine nm_l (Option.some.inj e_v3) ?_
  refine lv_lstore hx hb d_M_h_29 hl (by decide) (lv' := [(4, .long v3), (0, .long a0), (2, .long a1)]) rfl (fun ls hl => ?_)
  refine lv_lload hx hb d_M_h_31 (lv_at hl 0 rfl) ?_
  refine lv_lload hx hb d_M_h_33 (lv_at hl 0 rfl) ?_
  refine lv_bipush (v := 28) hx hb d_M_h_35 (by decide) ?_
  refine lv_lushr (v := (Int64.toUInt64 v3 >>> ((Int32.toInt64 28).toUInt64 &&& Int64.toUInt64 63)).toInt64) hx hb d_M_h_37 rfl ?_
  refine lv_lxor hx hb d_M_h_38 ?_
  obtain rfl := Option.some.inj hF
  exact W.lret hx hb hr (fun t ht hW => ⟨_, rfl, rfl, ht⟩) (fun _ h => nomatch h) d_M_h_39
def f_M_digest (a0 : Int64) : Option Int64 := Option.bind (f_M_h a0 17) (fun r1 => some ((Int64.toUInt64 r1 >>> ((Int32.toInt64 34).toUInt64 &&& Int64.toUInt64 63)).toInt64))
abbrev rm_M_digest : Room := { frames := 1, cells := 0, slots := 0, locals := 25 }
set_option maxHeartbeats 4000000 in
set_option maxRecDepth 100000 in
theorem k_M_digest (l : Launch) (a0 : Int64) (r : Int64) (hF : f_M_digest a0 = some r) : Met l y_M_digest (Cond.code y_M_digest b_M_digest 2 (some .long) :: wa) rm_M_digest (pcs [.long a0]) (vp_Sl (fun z => z = r)) 0 0 (fun _ => False) := by
  refine Met.ofW (cc := b_M_digest) (maxL := 2) (ret := (some .long)) (by decide) rfl ?_
  intro p e s m args below meth c s₁ B hml hv
  obtain ⟨rfl, hN⟩ := hv
  have hx := B.exec
  have hb := B.bytes
  have hr := B.returns
  have hts := atoms_spec (ws := Cond.code y_M_digest b_M_digest 2 (some .long) :: wa) B.pre
  have hw : ∀ w ∈ wa, w.before _ s = true := fun w h => hts w (List.mem_cons_of_mem _ h)
  have hown : s.vm.findClass R_M = some m.cls := findClass_of_methodNamed B.named
  have hlocks := B.notSynchronized
  have hl := lv_entry ([.long a0]) (n := 2) (Nat.le_of_ble_eq_true rfl)
  rw [lg_entry_eq]
  generalize (lg_sl ([.long a0]) ++ List.replicate (2 - (lg_sl ([.long a0])).length) Slot.unset).toArray = ls at hl ⊢
  have hl : lv_has ls 2 [(0, .long a0)] := hl
  unfold f_M_digest at hF
  refine lv_lload_n hx hb d_M_digest_0 rfl (lv_at hl 0 rfl) ?_
  refine lv_ldc2 (v := 17) hx hb hown (hw _ ww_673) d_M_digest_1 ?_
  obtain ⟨r1, e_r1, hF⟩ := Option.bind_eq_some_iff.mp hF
  refine vp_callSl (va_runS (As := [.long a0, .long 17]) (rest := []) ⟨hx, hb, hml, hown, hts⟩ (k_M_h l a0 17 r1 e_r1) (va_cwS 2 hts (ga_S ww_674 ww_675 ww_4 ww_676) rfl rfl rfl (by decide +kernel) ⟨by decide, by decide⟩) (pcs_pre hN) rfl rfl hl.1 rfl (lv_room (Nat.le_of_ble_eq_true rfl)) d_M_digest_4 ⟨Nat.zero_le _, Nat.zero_le _⟩).run (fun z9 hz9 => ?_)
  obtain rfl : r1 = z9 := hz9.symm
  refine lv_bipush (v := 34) hx hb d_M_digest_7 (by decide) ?_
  refine lv_lushr (v := (Int64.toUInt64 r1 >>> ((Int32.toInt64 34).toUInt64 &&& Int64.toUInt64 63)).toInt64) hx hb d_M_digest_9 rfl ?_
  obtain rfl := Option.some.inj hF
  exact W.lret hx hb hr (fun t ht hW => ⟨_, rfl, rfl, ht⟩) (fun _ h => nomatch h) d_M_digest_10
def f_M_xOf (a0 : Int64) : Option Int64 := some (a0 / 2147483648)
abbrev rm_M_xOf : Room := { frames := 0, cells := 0, slots := 0, locals := 0 }
set_option maxHeartbeats 4000000 in
set_option maxRecDepth 100000 in
theorem k_M_xOf (l : Launch) (a0 : Int64) (r : Int64) (hF : f_M_xOf a0 = some r) : Met l y_M_xOf (Cond.code y_M_xOf b_M_xOf 2 (some .long) :: wa) rm_M_xOf (pcs [.long a0]) (vp_Sl (fun z => z = r)) 0 0 (fun _ => False) := by
  refine Met.ofW (cc := b_M_xOf) (maxL := 2) (ret := (some .long)) (by decide) rfl ?_
  intro p e s m args below meth c s₁ B hml hv
  obtain ⟨rfl, hN⟩ := hv
  have hx := B.exec
  have hb := B.bytes
  have hr := B.returns
  have hts := atoms_spec (ws := Cond.code y_M_xOf b_M_xOf 2 (some .long) :: wa) B.pre
  have hw : ∀ w ∈ wa, w.before _ s = true := fun w h => hts w (List.mem_cons_of_mem _ h)
  have hown : s.vm.findClass R_M = some m.cls := findClass_of_methodNamed B.named
  have hlocks := B.notSynchronized
  have hl := lv_entry ([.long a0]) (n := 2) (Nat.le_of_ble_eq_true rfl)
  rw [lg_entry_eq]
  generalize (lg_sl ([.long a0]) ++ List.replicate (2 - (lg_sl ([.long a0])).length) Slot.unset).toArray = ls at hl ⊢
  have hl : lv_has ls 2 [(0, .long a0)] := hl
  unfold f_M_xOf at hF
  refine lv_lload_n hx hb d_M_xOf_0 rfl (lv_at hl 0 rfl) ?_
  refine lv_ldc2 (v := 2147483648) hx hb hown (hw _ ww_600) d_M_xOf_1 ?_
  refine lv_ldiv hx hb d_M_xOf_4 (by decide) ?_
  obtain rfl := Option.some.inj hF
  exact W.lret hx hb hr (fun t ht hW => ⟨_, rfl, rfl, ht⟩) (fun _ h => nomatch h) d_M_xOf_5
def f_M_yOf (a0 : Int64) : Option Int64 := some (a0 - a0 / 2147483648 * 2147483648)
abbrev rm_M_yOf : Room := { frames := 0, cells := 0, slots := 0, locals := 0 }
set_option maxHeartbeats 4000000 in
set_option maxRecDepth 100000 in
theorem k_M_yOf (l : Launch) (a0 : Int64) (r : Int64) (hF : f_M_yOf a0 = some r) : Met l y_M_yOf (Cond.code y_M_yOf b_M_yOf 2 (some .long) :: wa) rm_M_yOf (pcs [.long a0]) (vp_Sl (fun z => z = r)) 0 0 (fun _ => False) := by
  refine Met.ofW (cc := b_M_yOf) (maxL := 2) (ret := (some .long)) (by decide) rfl ?_
  intro p e s m args below meth c s₁ B hml hv
  obtain ⟨rfl, hN⟩ := hv
  have hx := B.exec
  have hb := B.bytes
  have hr := B.returns
  have hts := atoms_spec (ws := Cond.code y_M_yOf b_M_yOf 2 (some .long) :: wa) B.pre
  have hw : ∀ w ∈ wa, w.before _ s = true := fun w h => hts w (List.mem_cons_of_mem _ h)
  have hown : s.vm.findClass R_M = some m.cls := findClass_of_methodNamed B.named
  have hlocks := B.notSynchronized
  have hl := lv_entry ([.long a0]) (n := 2) (Nat.le_of_ble_eq_true rfl)
  rw [lg_entry_eq]
  generalize (lg_sl ([.long a0]) ++ List.replicate (2 - (lg_sl ([.long a0])).length) Slot.unset).toArray = ls at hl ⊢
  have hl : lv_has ls 2 [(0, .long a0)] := hl
  unfold f_M_yOf at hF
  refine lv_lload_n hx hb d_M_yOf_0 rfl (lv_at hl 0 rfl) ?_
  refine lv_ldc2 (v := 2147483648) hx hb hown (hw _ ww_600) d_M_yOf_1 ?_
  refine lv_lrem hx hb d_M_yOf_4 (by decide) ?_
  obtain rfl := Option.some.inj hF
  exact W.lret hx hb hr (fun t ht hW => ⟨_, rfl, rfl, ht⟩) (fun _ h => nomatch h) d_M_yOf_5
def f_M_sum (a0 : Int64) (a1 : Int64) : Option Int64 := if (lg_cmp a0 (-1)) = 0 then (Option.bind (if (lg_cmp a0 (-1)) = 0 then (some (a1) : Option (Int64)) else (some (a0))) (fun j1 => some (j1))) else (if (lg_cmp a1 (-1)) = 0 then (Option.bind (if (lg_cmp a0 (-1)) = 0 then (some (a1) : Option (Int64)) else (some (a0))) (fun j29 => some (j29))) else (Option.bind (f_M_xOf a0) (fun r5 => Option.bind (f_M_yOf a0) (fun r6 => Option.bind (f_M_xOf a1) (fun r7 => Option.bind (f_M_yOf a1) (fun r8 => if (lg_cmp r5 r7) = 0 then (if (lg_cmp r6 r8) = 0 then (Option.bind (if (lg_cmp r5 r7) = 0 then (Option.bind (f_M_quotient (3 * ((r5 * r5) - (r5 * r5) / 1073735023 * 1073735023)) (2 * r6) 1073735023) (fun r28 => some (r28)) : Option (Int64)) else (Option.bind (f_M_mod (r7 - r5) 1073735023) (fun r26 => Option.bind (f_M_quotient (r8 - r6) r26 1073735023) (fun r27 => some (r27))))) (fun j19 => Option.bind (f_M_mod ((((j19 * j19) - (j19 * j19) / 1073735023 * 1073735023) - r5) - r7) 1073735023) (fun r23 => Option.bind (f_M_mod (r5 - r23) 1073735023) (fun r24 => Option.bind (f_M_mod (((j19 * r24) - (j19 * r24) / 1073735023 * 1073735023) - r6) 1073735023) (fun r25 => some ((r23 * 2147483648) + r25)))))) else (some ((-1)))) else (Option.bind (if (lg_cmp r5 r7) = 0 then (Option.bind (f_M_quotient (3 * ((r5 * r5) - (r5 * r5) / 1073735023 * 1073735023)) (2 * r6) 1073735023) (fun r18 => some (r18)) : Option (Int64)) else (Option.bind (f_M_mod (r7 - r5) 1073735023) (fun r16 => Option.bind (f_M_quotient (r8 - r6) r16 1073735023) (fun r17 => some (r17))))) (fun j9 => Option.bind (f_M_mod ((((j9 * j9) - (j9 * j9) / 1073735023 * 1073735023) - r5) - r7) 1073735023) (fun r13 => Option.bind (f_M_mod (r5 - r13) 1073735023) (fun r14 => Option.bind (f_M_mod (((j9 * r14) - (j9 * r14) / 1073735023 * 1073735023) - r6) 1073735023) (fun r15 => some ((r13 * 2147483648) + r15))))))))))))
abbrev rm_M_sum : Room := { frames := 3, cells := 0, slots := 0, locals := 81 }
set_option maxHeartbeats 4000000 in
set_option maxRecDepth 100000 in
theorem k_M_sum (l : Launch) (a0 : Int64) (a1 : Int64) (r : Int64) (hF : f_M_sum a0 a1 = some r) : Met l y_M_sum (Cond.code y_M_sum b_M_sum 18 (some .long) :: wa) rm_M_sum (pcs [.long a0, .long a1]) (vp_Sl (fun z => z = r)) 0 0 (fun _ => False) := by
  refine Met.ofW (cc := b_M_sum) (maxL := 18) (ret := (some .long)) (by decide) rfl ?_
  intro p e s m args below meth c s₁ B hml hv
  obtain ⟨rfl, hN⟩ := hv
  have hx := B.exec
  have hb := B.bytes
  have hr := B.returns
  have hts := atoms_spec (ws := Cond.code y_M_sum b_M_sum 18 (some .long) :: wa) B.pre
  have hw : ∀ w ∈ wa, w.before _ s = true := fun w h => hts w (List.mem_cons_of_mem _ h)
  have hown : s.vm.findClass R_M = some m.cls := findClass_of_methodNamed B.named
  have hlocks := B.notSynchronized
  have hl := lv_entry ([.long a0, .long a1]) (n := 18) (Nat.le_of_ble_eq_true rfl)
  rw [lg_entry_eq]
  generalize (lg_sl ([.long a0, .long a1]) ++ List.replicate (18 - (lg_sl ([.long a0, .long a1])).length) Slot.unset).toArray = ls at hl ⊢
  have hl : lv_has ls 18 [(0, .long a0), (2, .long a1)] := hl
  unfold f_M_sum at hF
  refine lv_lload_n hx hb d_M_sum_0 rfl (lv_at hl 0 rfl) ?_
  refine lv_ldc2 (v := (-1)) hx hb hown (hw _ ww_533) d_M_sum_1 ?_
  refine W.lcmp hx hb d_M_sum_4 ?_
  refine lv_if_eq hx hb d_M_sum_5 (tgt := 16) (by decide) (fun h9 => ?_) (fun h9 => ?_)
  · have hF := (if_pos h9).symm.trans hF
    refine lv_lload_n hx hb d_M_sum_16 rfl (lv_at hl 0 rfl) ?_
    refine lv_ldc2 (v := (-1)) hx hb hown (hw _ ww_533) d_M_sum_17 ?_
    refine W.lcmp hx hb d_M_sum_20 ?_
    obtain ⟨j1, q3, hF⟩ := Option.bind_eq_some_iff.mp hF
    have k2 : ∀ (ls : Array Slot), lv_has ls 18 [] → W p l e rm_M_sum s m ([Value.long a0, Value.long a1] : List Value).toArray below meth c s.heap [] 0 0 (MQ below (vp_Sl (fun z => z = r)) ([Value.long a0, Value.long a1] : List Value).toArray s 0 0 (fun _ => False)) (F0 m 29 ls [.long j1]) := by
      intro ls hl
      obtain rfl := Option.some.inj hF
      exact W.lret hx hb hr (fun t ht hW => ⟨_, rfl, rfl, ht⟩) (fun _ h => nomatch h) d_M_sum_29
    clear hF
    have hF := q3
    refine lv_if_ne hx hb d_M_sum_21 (tgt := 28) (by decide) (fun h9 => ?_) (fun h9 => ?_)
    · have hF := (if_neg h9).symm.trans hF
      refine lv_lload_n hx hb d_M_sum_28 rfl (lv_at hl 0 rfl) ?_
      obtain rfl := Option.some.inj hF
      exact k2 ls (lv_sub hl [] rfl)
    · have hF := (if_pos h9).symm.trans hF
      refine lv_lload_n hx hb d_M_sum_24 rfl (lv_at hl 1 rfl) ?_
      refine lv_goto hx hb d_M_sum_25 (tgt := 29) (by decide) ?_
      obtain rfl := Option.some.inj hF
      exact k2 ls (lv_sub hl [] rfl)
  · have hF := (if_neg h9).symm.trans hF
    refine lv_lload_n hx hb d_M_sum_8 rfl (lv_at hl 1 rfl) ?_
    refine lv_ldc2 (v := (-1)) hx hb hown (hw _ ww_533) d_M_sum_9 ?_
    refine W.lcmp hx hb d_M_sum_12 ?_
    refine lv_if_ne hx hb d_M_sum_13 (tgt := 30) (by decide) (fun h9 => ?_) (fun h9 => ?_)
    · have hF := (if_neg h9).symm.trans hF
      refine lv_lload_n hx hb d_M_sum_30 rfl (lv_at hl 0 rfl) ?_
      obtain ⟨r5, e_r5, hF⟩ := Option.bind_eq_some_iff.mp hF
      refine vp_callSl (va_runS (As := [.long a0]) (rest := []) ⟨hx, hb, hml, hown, hts⟩ (k_M_xOf l a0 r5 e_r5) (va_cwS 1 hts (ga_S ww_597 ww_598 ww_4 ww_599) rfl rfl rfl (by decide +kernel) ⟨by decide, by decide⟩) (pcs_pre hN) rfl rfl hl.1 rfl (lv_room (Nat.le_of_ble_eq_true rfl)) d_M_sum_31 ⟨Nat.zero_le _, Nat.zero_le _⟩).run (fun z9 hz9 => ?_)
      obtain rfl : r5 = z9 := hz9.symm
      refine lv_lstore hx hb d_M_sum_34 hl (by decide) (lv' := [(4, .long r5), (0, .long a0), (2, .long a1)]) rfl (fun ls hl => ?_)
      refine lv_lload_n hx hb d_M_sum_36 rfl (lv_at hl 1 rfl) ?_
      obtain ⟨r6, e_r6, hF⟩ := Option.bind_eq_some_iff.mp hF
      refine vp_callSl (va_runS (As := [.long a0]) (rest := []) ⟨hx, hb, hml, hown, hts⟩ (k_M_yOf l a0 r6 e_r6) (va_cwS 1 hts (ga_S ww_601 ww_602 ww_4 ww_603) rfl rfl rfl (by decide +kernel) ⟨by decide, by decide⟩) (pcs_pre hN) rfl rfl hl.1 rfl (lv_room (Nat.le_of_ble_eq_true rfl)) d_M_sum_37 ⟨Nat.zero_le _, Nat.zero_le _⟩).run (fun z9 hz9 => ?_)
      obtain rfl : r6 = z9 := hz9.symm
      refine lv_lstore hx hb d_M_sum_40 hl (by decide) (lv' := [(6, .long r6), (4, .long r5), (0, .long a0), (2, .long a1)]) rfl (fun ls hl => ?_)
      refine lv_lload_n hx hb d_M_sum_42 rfl (lv_at hl 3 rfl) ?_
      obtain ⟨r7, e_r7, hF⟩ := Option.bind_eq_some_iff.mp hF
      refine vp_callSl (va_runS (As := [.long a1]) (rest := []) ⟨hx, hb, hml, hown, hts⟩ (k_M_xOf l a1 r7 e_r7) (va_cwS 1 hts (ga_S ww_597 ww_598 ww_4 ww_599) rfl rfl rfl (by decide +kernel) ⟨by decide, by decide⟩) (pcs_pre hN) rfl rfl hl.1 rfl (lv_room (Nat.le_of_ble_eq_true rfl)) d_M_sum_43 ⟨Nat.zero_le _, Nat.zero_le _⟩).run (fun z9 hz9 => ?_)
      obtain rfl : r7 = z9 := hz9.symm
      refine lv_lstore hx hb d_M_sum_46 hl (by decide) (lv' := [(8, .long r7), (6, .long r6), (4, .long r5), (0, .long a0), (2, .long a1)]) rfl (fun ls hl => ?_)
      refine lv_lload_n hx hb d_M_sum_48 rfl (lv_at hl 4 rfl) ?_
      obtain ⟨r8, e_r8, hF⟩ := Option.bind_eq_some_iff.mp hF
      refine vp_callSl (va_runS (As := [.long a1]) (rest := []) ⟨hx, hb, hml, hown, hts⟩ (k_M_yOf l a1 r8 e_r8) (va_cwS 1 hts (ga_S ww_601 ww_602 ww_4 ww_603) rfl rfl rfl (by decide +kernel) ⟨by decide, by decide⟩) (pcs_pre hN) rfl rfl hl.1 rfl (lv_room (Nat.le_of_ble_eq_true rfl)) d_M_sum_49 ⟨Nat.zero_le _, Nat.zero_le _⟩).run (fun z9 hz9 => ?_)
      obtain rfl : r8 = z9 := hz9.symm
      refine lv_lstore hx hb d_M_sum_52 hl (by decide) (lv' := [(10, .long r8), (8, .long r7), (6, .long r6), (4, .long r5), (0, .long a0), (2, .long a1)]) rfl (fun ls hl => ?_)
      refine lv_lload hx hb d_M_sum_54 (lv_at hl 3 rfl) ?_
      refine lv_lload hx hb d_M_sum_56 (lv_at hl 1 rfl) ?_
      refine W.lcmp hx hb d_M_sum_58 ?_
      refine lv_if_ne hx hb d_M_sum_59 (tgt := 74) (by decide) (fun h9 => ?_) (fun h9 => ?_)
      · have hF := (if_neg h9).symm.trans hF
        refine lv_lload hx hb d_M_sum_74 (lv_at hl 3 rfl) ?_
        refine lv_lload hx hb d_M_sum_76 (lv_at hl 1 rfl) ?_
        refine W.lcmp hx hb d_M_sum_78 ?_
        obtain ⟨j9, q11, hF⟩ := Option.bind_eq_some_iff.mp hF
        have k10 : ∀ (ls : Array Slot), lv_has ls 18 [(8, .long r7), (6, .long r6), (4, .long r5)] → W p l e rm_M_sum s m ([Value.long a0, Value.long a1] : List Value).toArray below meth c s.heap [] 0 0 (MQ below (vp_Sl (fun z => z = r)) ([Value.long a0, Value.long a1] : List Value).toArray s 0 0 (fun _ => False)) (F0 m 132 ls [.long j9]) := by
          intro ls hl
          refine lv_lstore hx hb d_M_sum_132 hl (by decide) (lv' := [(12, .long j9), (8, .long r7), (6, .long r6), (4, .long r5)]) rfl (fun ls hl => ?_)
          refine lv_lload hx hb d_M_sum_134 (lv_at hl 0 rfl) ?_
          refine lv_lload hx hb d_M_sum_136 (lv_at hl 0 rfl) ?_
          refine lv_lmul hx hb d_M_sum_138 ?_
          refine lv_ldc2 (v := 1073735023) hx hb hown (hw _ ww_605) d_M_sum_139 ?_
          refine lv_lrem hx hb d_M_sum_142 (by decide) ?_
          refine lv_lload hx hb d_M_sum_143 (lv_at hl 3 rfl) ?_
          refine lv_lsub hx hb d_M_sum_145 ?_
          refine lv_lload hx hb d_M_sum_146 (lv_at hl 1 rfl) ?_
          refine lv_lsub hx hb d_M_sum_148 ?_
          refine lv_ldc2 (v := 1073735023) hx hb hown (hw _ ww_605) d_M_sum_149 ?_
          obtain ⟨r13, e_r13, hF⟩ := Option.bind_eq_some_iff.mp hF
          refine vp_callSl (va_runS (As := [.long ((((j9 * j9) - (j9 * j9) / 1073735023 * 1073735023) - r5) - r7), .long 1073735023]) (rest := []) ⟨hx, hb, hml, hown, hts⟩ (k_M_mod l ((((j9 * j9) - (j9 * j9) / 1073735023 * 1073735023) - r5) - r7) 1073735023 r13 e_r13) (va_cwS 2 hts (ga_S ww_609 ww_610 ww_4 ww_611) rfl rfl rfl (by decide +kernel) ⟨by decide, by decide⟩) (pcs_pre hN) rfl rfl hl.1 rfl (lv_room (Nat.le_of_ble_eq_true rfl)) d_M_sum_152 ⟨Nat.zero_le _, Nat.zero_le _⟩).run (fun z9 hz9 => ?_)
          obtain rfl : r13 = z9 := hz9.symm
          refine lv_lstore hx hb d_M_sum_155 hl (by decide) (lv' := [(14, .long r13), (12, .long j9), (8, .long r7), (6, .long r6), (4, .long r5)]) rfl (fun ls hl => ?_)
          refine lv_lload hx hb d_M_sum_157 (lv_at hl 1 rfl) ?_
          refine lv_lload hx hb d_M_sum_159 (lv_at hl 4 rfl) ?_
          refine lv_lload hx hb d_M_sum_161 (lv_at hl 0 rfl) ?_
          refine lv_lsub hx hb d_M_sum_163 ?_
          refine lv_ldc2 (v := 1073735023) hx hb hown (hw _ ww_605) d_M_sum_164 ?_
          obtain ⟨r14, e_r14, hF⟩ := Option.bind_eq_some_iff.mp hF
          refine vp_callSl (va_runS (As := [.long (r5 - r13), .long 1073735023]) (rest := [.long j9]) ⟨hx, hb, hml, hown, hts⟩ (k_M_mod l (r5 - r13) 1073735023 r14 e_r14) (va_cwS 2 hts (ga_S ww_609 ww_610 ww_4 ww_611) rfl rfl rfl (by decide +kernel) ⟨by decide, by decide⟩) (pcs_pre hN) rfl rfl hl.1 rfl (lv_room (Nat.le_of_ble_eq_true rfl)) d_M_sum_167 ⟨Nat.zero_le _, Nat.zero_le _⟩).run (fun z9 hz9 => ?_)
          obtain rfl : r14 = z9 := hz9.symm
          refine lv_lmul hx hb d_M_sum_170 ?_
          refine lv_ldc2 (v := 1073735023) hx hb hown (hw _ ww_605) d_M_sum_171 ?_
          refine lv_lrem hx hb d_M_sum_174 (by decide) ?_
          refine lv_lload hx hb d_M_sum_175 (lv_at hl 3 rfl) ?_
          refine lv_lsub hx hb d_M_sum_177 ?_
          refine lv_ldc2 (v := 1073735023) hx hb hown (hw _ ww_605) d_M_sum_178 ?_
          obtain ⟨r15, e_r15, hF⟩ := Option.bind_eq_some_iff.mp hF
          refine vp_callSl (va_runS (As := [.long (((j9 * r14) - (j9 * r14) / 1073735023 * 1073735023) - r6), .long 1073735023]) (rest := []) ⟨hx, hb, hml, hown, hts⟩ (k_M_mod l (((j9 * r14) - (j9 * r14) / 1073735023 * 1073735023) - r6) 1073735023 r15 e_r15) (va_cwS 2 hts (ga_S ww_609 ww_610 ww_4 ww_611) rfl rfl rfl (by decide +kernel) ⟨by decide, by decide⟩) (pcs_pre hN) rfl rfl hl.1 rfl (lv_room (Nat.le_of_ble_eq_true rfl)) d_M_sum_181 ⟨Nat.zero_le _, Nat.zero_le _⟩).run (fun z9 hz9 => ?_)
          obtain rfl : r15 = z9 := hz9.symm
          refine lv_lstore hx hb d_M_sum_184 hl (by decide) (lv' := [(16, .long r15), (14, .long r13), (12, .long j9), (8, .long r7), (6, .long r6), (4, .long r5)]) rfl (fun ls hl => ?_)
          refine lv_lload hx hb d_M_sum_186 (lv_at hl 1 rfl) ?_
          refine lv_ldc2 (v := 2147483648) hx hb hown (hw _ ww_600) d_M_sum_188 ?_
          refine lv_lmul hx hb d_M_sum_191 ?_
          refine lv_lload hx hb d_M_sum_192 (lv_at hl 0 rfl) ?_
          refine lv_ladd hx hb d_M_sum_194 ?_
          obtain rfl := Option.some.inj hF
          exact W.lret hx hb hr (fun t ht hW => ⟨_, rfl, rfl, ht⟩) (fun _ h => nomatch h) d_M_sum_195
        clear hF
        have hF := q11
        refine lv_if_ne hx hb d_M_sum_79 (tgt := 110) (by decide) (fun h9 => ?_) (fun h9 => ?_)
        · have hF := (if_neg h9).symm.trans hF
          refine lv_lload hx hb d_M_sum_110 (lv_at hl 0 rfl) ?_
          refine lv_lload hx hb d_M_sum_112 (lv_at hl 2 rfl) ?_
          refine lv_lsub hx hb d_M_sum_114 ?_
          refine lv_lload hx hb d_M_sum_115 (lv_at hl 1 rfl) ?_
          refine lv_lload hx hb d_M_sum_117 (lv_at hl 3 rfl) ?_
          refine lv_lsub hx hb d_M_sum_119 ?_
          refine lv_ldc2 (v := 1073735023) hx hb hown (hw _ ww_605) d_M_sum_120 ?_
          obtain ⟨r16, e_r16, hF⟩ := Option.bind_eq_some_iff.mp hF
          refine vp_callSl (va_runS (As := [.long (r7 - r5), .long 1073735023]) (rest := [.long (r8 - r6)]) ⟨hx, hb, hml, hown, hts⟩ (k_M_mod l (r7 - r5) 1073735023 r16 e_r16) (va_cwS 2 hts (ga_S ww_609 ww_610 ww_4 ww_611) rfl rfl rfl (by decide +kernel) ⟨by decide, by decide⟩) (pcs_pre hN) rfl rfl hl.1 rfl (lv_room (Nat.le_of_ble_eq_true rfl)) d_M_sum_123 ⟨Nat.zero_le _, Nat.zero_le _⟩).run (fun z9 hz9 => ?_)
          obtain rfl : r16 = z9 := hz9.symm
          refine lv_ldc2 (v := 1073735023) hx hb hown (hw _ ww_605) d_M_sum_126 ?_
          obtain ⟨r17, e_r17, hF⟩ := Option.bind_eq_some_iff.mp hF
          refine vp_callSl (va_runS (As := [.long (r8 - r6), .long r16, .long 1073735023]) (rest := []) ⟨hx, hb, hml, hown, hts⟩ (k_M_quotient l (r8 - r6) r16 1073735023 r17 e_r17) (va_cwS 3 hts (ga_S ww_606 ww_607 ww_4 ww_608) rfl rfl rfl (by decide +kernel) ⟨by decide, by decide⟩) (pcs_pre hN) rfl rfl hl.1 rfl (lv_room (Nat.le_of_ble_eq_true rfl)) d_M_sum_129 ⟨Nat.zero_le _, Nat.zero_le _⟩).run (fun z9 hz9 => ?_)
          obtain rfl : r17 = z9 := hz9.symm
          obtain rfl := Option.some.inj hF
          exact k10 ls (lv_sub hl [1, 2, 3] rfl)
        · have hF := (if_pos h9).symm.trans hF
          refine lv_ldc2 (v := 3) hx hb hown (hw _ ww_604) d_M_sum_82 ?_
          refine lv_lload hx hb d_M_sum_85 (lv_at hl 3 rfl) ?_
          refine lv_lload hx hb d_M_sum_87 (lv_at hl 3 rfl) ?_
          refine lv_lmul hx hb d_M_sum_89 ?_
          refine lv_ldc2 (v := 1073735023) hx hb hown (hw _ ww_605) d_M_sum_90 ?_
          refine lv_lrem hx hb d_M_sum_93 (by decide) ?_
          refine lv_lmul hx hb d_M_sum_94 ?_
          refine lv_ldc2 (v := 2) hx hb hown (hw _ ww_593) d_M_sum_95 ?_
          refine lv_lload hx hb d_M_sum_98 (lv_at hl 2 rfl) ?_
          refine lv_lmul hx hb d_M_sum_100 ?_
          refine lv_ldc2 (v := 1073735023) hx hb hown (hw _ ww_605) d_M_sum_101 ?_
          obtain ⟨r18, e_r18, hF⟩ := Option.bind_eq_some_iff.mp hF
          refine vp_callSl (va_runS (As := [.long (3 * ((r5 * r5) - (r5 * r5) / 1073735023 * 1073735023)), .long (2 * r6), .long 1073735023]) (rest := []) ⟨hx, hb, hml, hown, hts⟩ (k_M_quotient l (3 * ((r5 * r5) - (r5 * r5) / 1073735023 * 1073735023)) (2 * r6) 1073735023 r18 e_r18) (va_cwS 3 hts (ga_S ww_606 ww_607 ww_4 ww_608) rfl rfl rfl (by decide +kernel) ⟨by decide, by decide⟩) (pcs_pre hN) rfl rfl hl.1 rfl (lv_room (Nat.le_of_ble_eq_true rfl)) d_M_sum_104 ⟨Nat.zero_le _, Nat.zero_le _⟩).run (fun z9 hz9 => ?_)
          obtain rfl : r18 = z9 := hz9.symm
          refine lv_goto hx hb d_M_sum_107 (tgt := 132) (by decide) ?_
          obtain rfl := Option.some.inj hF
          exact k10 ls (lv_sub hl [1, 2, 3] rfl)
      · have hF := (if_pos h9).symm.trans hF
        refine lv_lload hx hb d_M_sum_62 (lv_at hl 2 rfl) ?_
        refine lv_lload hx hb d_M_sum_64 (lv_at hl 0 rfl) ?_
        refine W.lcmp hx hb d_M_sum_66 ?_
        refine lv_if_eq hx hb d_M_sum_67 (tgt := 74) (by decide) (fun h9 => ?_) (fun h9 => ?_)
        · have hF := (if_pos h9).symm.trans hF
          refine lv_lload hx hb d_M_sum_74 (lv_at hl 3 rfl) ?_
          refine lv_lload hx hb d_M_sum_76 (lv_at hl 1 rfl) ?_
          refine W.lcmp hx hb d_M_sum_78 ?_
          obtain ⟨j19, q21, hF⟩ := Option.bind_eq_some_iff.mp hF
          have k20 : ∀ (ls : Array Slot), lv_has ls 18 [(8, .long r7), (6, .long r6), (4, .long r5)] → W p l e rm_M_sum s m ([Value.long a0, Value.long a1] : List Value).toArray below meth c s.heap [] 0 0 (MQ below (vp_Sl (fun z => z = r)) ([Value.long a0, Value.long a1] : List Value).toArray s 0 0 (fun _ => False)) (F0 m 132 ls [.long j19]) := by
            intro ls hl
            refine lv_lstore hx hb d_M_sum_132 hl (by decide) (lv' := [(12, .long j19), (8, .long r7), (6, .long r6), (4, .long r5)]) rfl (fun ls hl => ?_)
            refine lv_lload hx hb d_M_sum_134 (lv_at hl 0 rfl) ?_
            refine lv_lload hx hb d_M_sum_136 (lv_at hl 0 rfl) ?_
            refine lv_lmul hx hb d_M_sum_138 ?_
            refine lv_ldc2 (v := 1073735023) hx hb hown (hw _ ww_605) d_M_sum_139 ?_
            refine lv_lrem hx hb d_M_sum_142 (by decide) ?_
            refine lv_lload hx hb d_M_sum_143 (lv_at hl 3 rfl) ?_
            refine lv_lsub hx hb d_M_sum_145 ?_
            refine lv_lload hx hb d_M_sum_146 (lv_at hl 1 rfl) ?_
            refine lv_lsub hx hb d_M_sum_148 ?_
            refine lv_ldc2 (v := 1073735023) hx hb hown (hw _ ww_605) d_M_sum_149 ?_
            obtain ⟨r23, e_r23, hF⟩ := Option.bind_eq_some_iff.mp hF
            refine vp_callSl (va_runS (As := [.long ((((j19 * j19) - (j19 * j19) / 1073735023 * 1073735023) - r5) - r7), .long 1073735023]) (rest := []) ⟨hx, hb, hml, hown, hts⟩ (k_M_mod l ((((j19 * j19) - (j19 * j19) / 1073735023 * 1073735023) - r5) - r7) 1073735023 r23 e_r23) (va_cwS 2 hts (ga_S ww_609 ww_610 ww_4 ww_611) rfl rfl rfl (by decide +kernel) ⟨by decide, by decide⟩) (pcs_pre hN) rfl rfl hl.1 rfl (lv_room (Nat.le_of_ble_eq_true rfl)) d_M_sum_152 ⟨Nat.zero_le _, Nat.zero_le _⟩).run (fun z9 hz9 => ?_)
            obtain rfl : r23 = z9 := hz9.symm
            refine lv_lstore hx hb d_M_sum_155 hl (by decide) (lv' := [(14, .long r23), (12, .long j19), (8, .long r7), (6, .long r6), (4, .long r5)]) rfl (fun ls hl => ?_)
            refine lv_lload hx hb d_M_sum_157 (lv_at hl 1 rfl) ?_
            refine lv_lload hx hb d_M_sum_159 (lv_at hl 4 rfl) ?_
            refine lv_lload hx hb d_M_sum_161 (lv_at hl 0 rfl) ?_
            refine lv_lsub hx hb d_M_sum_163 ?_
            refine lv_ldc2 (v := 1073735023) hx hb hown (hw _ ww_605) d_M_sum_164 ?_
            obtain ⟨r24, e_r24, hF⟩ := Option.bind_eq_some_iff.mp hF
            refine vp_callSl (va_runS (As := [.long (r5 - r23), .long 1073735023]) (rest := [.long j19]) ⟨hx, hb, hml, hown, hts⟩ (k_M_mod l (r5 - r23) 1073735023 r24 e_r24) (va_cwS 2 hts (ga_S ww_609 ww_610 ww_4 ww_611) rfl rfl rfl (by decide +kernel) ⟨by decide, by decide⟩) (pcs_pre hN) rfl rfl hl.1 rfl (lv_room (Nat.le_of_ble_eq_true rfl)) d_M_sum_167 ⟨Nat.zero_le _, Nat.zero_le _⟩).run (fun z9 hz9 => ?_)
            obtain rfl : r24 = z9 := hz9.symm
            refine lv_lmul hx hb d_M_sum_170 ?_
            refine lv_ldc2 (v := 1073735023) hx hb hown (hw _ ww_605) d_M_sum_171 ?_
            refine lv_lrem hx hb d_M_sum_174 (by decide) ?_
            refine lv_lload hx hb d_M_sum_175 (lv_at hl 3 rfl) ?_
            refine lv_lsub hx hb d_M_sum_177 ?_
            refine lv_ldc2 (v := 1073735023) hx hb hown (hw _ ww_605) d_M_sum_178 ?_
            obtain ⟨r25, e_r25, hF⟩ := Option.bind_eq_some_iff.mp hF
            refine vp_callSl (va_runS (As := [.long (((j19 * r24) - (j19 * r24) / 1073735023 * 1073735023) - r6), .long 1073735023]) (rest := []) ⟨hx, hb, hml, hown, hts⟩ (k_M_mod l (((j19 * r24) - (j19 * r24) / 1073735023 * 1073735023) - r6) 1073735023 r25 e_r25) (va_cwS 2 hts (ga_S ww_609 ww_610 ww_4 ww_611) rfl rfl rfl (by decide +kernel) ⟨by decide, by decide⟩) (pcs_pre hN) rfl rfl hl.1 rfl (lv_room (Nat.le_of_ble_eq_true rfl)) d_M_sum_181 ⟨Nat.zero_le _, Nat.zero_le _⟩).run (fun z9 hz9 => ?_)
            obtain rfl : r25 = z9 := hz9.symm
            refine lv_lstore hx hb d_M_sum_184 hl (by decide) (lv' := [(16, .long r25), (14, .long r23), (12, .long j19), (8, .long r7), (6, .long r6), (4, .long r5)]) rfl (fun ls hl => ?_)
            refine lv_lload hx hb d_M_sum_186 (lv_at hl 1 rfl) ?_
            refine lv_ldc2 (v := 2147483648) hx hb hown (hw _ ww_600) d_M_sum_188 ?_
            refine lv_lmul hx hb d_M_sum_191 ?_
            refine lv_lload hx hb d_M_sum_192 (lv_at hl 0 rfl) ?_
            refine lv_ladd hx hb d_M_sum_194 ?_
            obtain rfl := Option.some.inj hF
            exact W.lret hx hb hr (fun t ht hW => ⟨_, rfl, rfl, ht⟩) (fun _ h => nomatch h) d_M_sum_195
          clear hF
          have hF := q21
          refine lv_if_ne hx hb d_M_sum_79 (tgt := 110) (by decide) (fun h9 => ?_) (fun h9 => ?_)
          · have hF := (if_neg h9).symm.trans hF
            refine lv_lload hx hb d_M_sum_110 (lv_at hl 0 rfl) ?_
            refine lv_lload hx hb d_M_sum_112 (lv_at hl 2 rfl) ?_
            refine lv_lsub hx hb d_M_sum_114 ?_
            refine lv_lload hx hb d_M_sum_115 (lv_at hl 1 rfl) ?_
            refine lv_lload hx hb d_M_sum_117 (lv_at hl 3 rfl) ?_
            refine lv_lsub hx hb d_M_sum_119 ?_
            refine lv_ldc2 (v := 1073735023) hx hb hown (hw _ ww_605) d_M_sum_120 ?_
            obtain ⟨r26, e_r26, hF⟩ := Option.bind_eq_some_iff.mp hF
            refine vp_callSl (va_runS (As := [.long (r7 - r5), .long 1073735023]) (rest := [.long (r8 - r6)]) ⟨hx, hb, hml, hown, hts⟩ (k_M_mod l (r7 - r5) 1073735023 r26 e_r26) (va_cwS 2 hts (ga_S ww_609 ww_610 ww_4 ww_611) rfl rfl rfl (by decide +kernel) ⟨by decide, by decide⟩) (pcs_pre hN) rfl rfl hl.1 rfl (lv_room (Nat.le_of_ble_eq_true rfl)) d_M_sum_123 ⟨Nat.zero_le _, Nat.zero_le _⟩).run (fun z9 hz9 => ?_)
            obtain rfl : r26 = z9 := hz9.symm
            refine lv_ldc2 (v := 1073735023) hx hb hown (hw _ ww_605) d_M_sum_126 ?_
            obtain ⟨r27, e_r27, hF⟩ := Option.bind_eq_some_iff.mp hF
            refine vp_callSl (va_runS (As := [.long (r8 - r6), .long r26, .long 1073735023]) (rest := []) ⟨hx, hb, hml, hown, hts⟩ (k_M_quotient l (r8 - r6) r26 1073735023 r27 e_r27) (va_cwS 3 hts (ga_S ww_606 ww_607 ww_4 ww_608) rfl rfl rfl (by decide +kernel) ⟨by decide, by decide⟩) (pcs_pre hN) rfl rfl hl.1 rfl (lv_room (Nat.le_of_ble_eq_true rfl)) d_M_sum_129 ⟨Nat.zero_le _, Nat.zero_le _⟩).run (fun z9 hz9 => ?_)
            obtain rfl : r27 = z9 := hz9.symm
            obtain rfl := Option.some.inj hF
            exact k20 ls (lv_sub hl [1, 2, 3] rfl)
          · have hF := (if_pos h9).symm.trans hF
            refine lv_ldc2 (v := 3) hx hb hown (hw _ ww_604) d_M_sum_82 ?_
            refine lv_lload hx hb d_M_sum_85 (lv_at hl 3 rfl) ?_
            refine lv_lload hx hb d_M_sum_87 (lv_at hl 3 rfl) ?_
            refine lv_lmul hx hb d_M_sum_89 ?_
            refine lv_ldc2 (v := 1073735023) hx hb hown (hw _ ww_605) d_M_sum_90 ?_
            refine lv_lrem hx hb d_M_sum_93 (by decide) ?_
            refine lv_lmul hx hb d_M_sum_94 ?_
            refine lv_ldc2 (v := 2) hx hb hown (hw _ ww_593) d_M_sum_95 ?_
            refine lv_lload hx hb d_M_sum_98 (lv_at hl 2 rfl) ?_
            refine lv_lmul hx hb d_M_sum_100 ?_
            refine lv_ldc2 (v := 1073735023) hx hb hown (hw _ ww_605) d_M_sum_101 ?_
            obtain ⟨r28, e_r28, hF⟩ := Option.bind_eq_some_iff.mp hF
            refine vp_callSl (va_runS (As := [.long (3 * ((r5 * r5) - (r5 * r5) / 1073735023 * 1073735023)), .long (2 * r6), .long 1073735023]) (rest := []) ⟨hx, hb, hml, hown, hts⟩ (k_M_quotient l (3 * ((r5 * r5) - (r5 * r5) / 1073735023 * 1073735023)) (2 * r6) 1073735023 r28 e_r28) (va_cwS 3 hts (ga_S ww_606 ww_607 ww_4 ww_608) rfl rfl rfl (by decide +kernel) ⟨by decide, by decide⟩) (pcs_pre hN) rfl rfl hl.1 rfl (lv_room (Nat.le_of_ble_eq_true rfl)) d_M_sum_104 ⟨Nat.zero_le _, Nat.zero_le _⟩).run (fun z9 hz9 => ?_)
            obtain rfl : r28 = z9 := hz9.symm
            refine lv_goto hx hb d_M_sum_107 (tgt := 132) (by decide) ?_
            obtain rfl := Option.some.inj hF
            exact k20 ls (lv_sub hl [1, 2, 3] rfl)
        · have hF := (if_neg h9).symm.trans hF
          refine lv_ldc2 (v := (-1)) hx hb hown (hw _ ww_533) d_M_sum_70 ?_
          obtain rfl := Option.some.inj hF
          exact W.lret hx hb hr (fun t ht hW => ⟨_, rfl, rfl, ht⟩) (fun _ h => nomatch h) d_M_sum_73
    · have hF := (if_pos h9).symm.trans hF
      refine lv_lload_n hx hb d_M_sum_16 rfl (lv_at hl 0 rfl) ?_
      refine lv_ldc2 (v := (-1)) hx hb hown (hw _ ww_533) d_M_sum_17 ?_
      refine W.lcmp hx hb d_M_sum_20 ?_
      obtain ⟨j29, q31, hF⟩ := Option.bind_eq_some_iff.mp hF
      have k30 : ∀ (ls : Array Slot), lv_has ls 18 [] → W p l e rm_M_sum s m ([Value.long a0, Value.long a1] : List Value).toArray below meth c s.heap [] 0 0 (MQ below (vp_Sl (fun z => z = r)) ([Value.long a0, Value.long a1] : List Value).toArray s 0 0 (fun _ => False)) (F0 m 29 ls [.long j29]) := by
        intro ls hl
        obtain rfl := Option.some.inj hF
        exact W.lret hx hb hr (fun t ht hW => ⟨_, rfl, rfl, ht⟩) (fun _ h => nomatch h) d_M_sum_29
      clear hF
      have hF := q31
      refine lv_if_ne hx hb d_M_sum_21 (tgt := 28) (by decide) (fun h9 => ?_) (fun h9 => ?_)
      · have hF := (if_neg h9).symm.trans hF
        refine lv_lload_n hx hb d_M_sum_28 rfl (lv_at hl 0 rfl) ?_
        obtain rfl := Option.some.inj hF
        exact k30 ls (lv_sub hl [] rfl)
      · have hF := (if_pos h9).symm.trans hF
        refine lv_lload_n hx hb d_M_sum_24 rfl (lv_at hl 1 rfl) ?_
        refine lv_goto hx hb d_M_sum_25 (tgt := 29) (by decide) ?_
        obtain rfl := Option.some.inj hF
        exact k30 ls (lv_sub hl [] rfl)
def f_M_times_11 : Nat → Int64 → Int64 → Int64 → Option (Int64 × Int64 × Int64)
  | 0, _, _, _ => none
  | n + 1, u2, u3, u4 => if (lg_cmp u2 0) ≤ 0 then (some (u2, u3, u4)) else (Option.bind (if (lg_cmp (u2 - u2 / 2 * 2) 1) = 0 then (Option.bind (f_M_sum u4 u3) (fun r18 => some (r18)) : Option (Int64)) else (some (u4))) (fun j12 => Option.bind (f_M_sum u3 u3) (fun r16 => Option.bind (some (u2 / 2)) (fun v17 => f_M_times_11  n v17 r16 j12))))
def f_M_times (a0 : Int64) (a1 : Int64) : Option Int64 := Option.bind (some ((-1))) (fun v1 => Option.bind (f_M_times_11  64 a0 a1 v1) (fun t20 => match t20 with | (o6, o7, o8) => (some (o8))))
abbrev rm_M_times : Room := { frames := 4, cells := 0, slots := 0, locals := 118 }
set_option maxHeartbeats 4000000 in
set_option maxRecDepth 100000 in
theorem k_M_times (l : Launch) (a0 : Int64) (a1 : Int64) (r : Int64) (hF : f_M_times a0 a1 = some r) : Met l y_M_times (Cond.code y_M_times b_M_times 10 (some .long) :: wa) rm_M_times (pcs [.long a0, .long a1]) (vp_Sl (fun z => z = r)) 0 0 (fun _ => False) := by
  refine Met.ofW (cc := b_M_times) (maxL := 10) (ret := (some .long)) (by decide) rfl ?_
  intro p e s m args below meth c s₁ B hml hv
  obtain ⟨rfl, hN⟩ := hv
  have hx := B.exec
  have hb := B.bytes
  have hr := B.returns
  have hts := atoms_spec (ws := Cond.code y_M_times b_M_times 10 (some .long) :: wa) B.pre
  have hw : ∀ w ∈ wa, w.before _ s = true := fun w h => hts w (List.mem_cons_of_mem _ h)
  have hown : s.vm.findClass R_M = some m.cls := findClass_of_methodNamed B.named
  have hlocks := B.notSynchronized
  have hl := lv_entry ([.long a0, .long a1]) (n := 10) (Nat.le_of_ble_eq_true rfl)
  rw [lg_entry_eq]
  generalize (lg_sl ([.long a0, .long a1]) ++ List.replicate (10 - (lg_sl ([.long a0, .long a1])).length) Slot.unset).toArray = ls at hl ⊢
  have hl : lv_has ls 10 [(0, .long a0), (2, .long a1)] := hl
  unfold f_M_times at hF
  refine lv_ldc2 (v := (-1)) hx hb hown (hw _ ww_533) d_M_times_0 ?_
  obtain ⟨v1, e_v1, hF⟩ := Option.bind_eq_some_iff.mp hF
  refine nm_l (Option.some.inj e_v1) ?_
  refine lv_lstore hx hb d_M_times_3 hl (by decide) (lv' := [(4, .long v1), (0, .long a0), (2, .long a1)]) rfl (fun ls hl => ?_)
  refine lv_lload_n hx hb d_M_times_5 rfl (lv_at hl 2 rfl) ?_
  refine lv_lstore hx hb d_M_times_6 hl (by decide) (lv' := [(6, .long a1), (4, .long v1), (0, .long a0), (2, .long a1)]) rfl (fun ls hl => ?_)
  refine lv_lload_n hx hb d_M_times_8 rfl (lv_at hl 2 rfl) ?_
  refine lv_lstore hx hb d_M_times_9 hl (by decide) (lv' := [(8, .long a0), (6, .long a1), (4, .long v1), (0, .long a0), (2, .long a1)]) rfl (fun ls hl => ?_)
  obtain ⟨⟨o6, o7, o8⟩, q19, hF⟩ := Option.bind_eq_some_iff.mp hF
  have k9 : ∀ (ls : Array Slot), lv_has ls 10 [(8, .long o6), (6, .long o7), (4, .long o8)] → W p l e rm_M_times s m ([Value.long a0, Value.long a1] : List Value).toArray below meth c s.heap [] 0 0 (MQ below (vp_Sl (fun z => z = r)) ([Value.long a0, Value.long a1] : List Value).toArray s 0 0 (fun _ => False)) (F0 m 63 ls []) := by
    intro ls hl
    refine lv_lload hx hb d_M_times_63 (lv_at hl 2 rfl) ?_
    obtain rfl := Option.some.inj hF
    exact W.lret hx hb hr (fun t ht hW => ⟨_, rfl, rfl, ht⟩) (fun _ h => nomatch h) d_M_times_65
  clear hF
  have k5 : ∀ (n : Nat) (u2 : Int64) (u3 : Int64) (u4 : Int64) (ls : Array Slot), lv_has ls 10 [(8, .long u2), (6, .long u3), (4, .long u4)] → f_M_times_11  n u2 u3 u4 = some (o6, o7, o8) → W p l e rm_M_times s m ([Value.long a0, Value.long a1] : List Value).toArray below meth c s.heap [] 0 0 (MQ below (vp_Sl (fun z => z = r)) ([Value.long a0, Value.long a1] : List Value).toArray s 0 0 (fun _ => False)) (F0 m 11 ls []) := by
    intro n
    induction n with
    | zero => intro u2 u3 u4 ls hl hF; cases hF
    | succ n ih =>
      intro u2 u3 u4 ls hl hF
      rw [f_M_times_11] at hF
      refine lv_lload hx hb d_M_times_11 (lv_at hl 0 rfl) ?_
      refine lv_lconst (v := 0) hx hb d_M_times_13 (by decide) ?_
      refine W.lcmp hx hb d_M_times_14 ?_
      refine lv_if_le hx hb d_M_times_15 (tgt := 63) (by decide) (fun h9 => ?_) (fun h9 => ?_)
      · have hF := (if_pos h9).symm.trans hF
        cases Option.some.inj hF
        exact k9 ls (lv_sub hl [0, 1, 2] rfl)
      · have hF := (if_neg h9).symm.trans hF
        refine lv_lload hx hb d_M_times_18 (lv_at hl 0 rfl) ?_
        refine lv_ldc2 (v := 2) hx hb hown (hw _ ww_593) d_M_times_20 ?_
        refine lv_lrem hx hb d_M_times_23 (by decide) ?_
        refine lv_lconst (v := 1) hx hb d_M_times_24 (by decide) ?_
        refine W.lcmp hx hb d_M_times_25 ?_
        obtain ⟨j12, q14, hF⟩ := Option.bind_eq_some_iff.mp hF
        have k13 : ∀ (ls : Array Slot), lv_has ls 10 [(8, .long u2), (6, .long u3)] → W p l e rm_M_times s m ([Value.long a0, Value.long a1] : List Value).toArray below meth c s.heap [] 0 0 (MQ below (vp_Sl (fun z => z = r)) ([Value.long a0, Value.long a1] : List Value).toArray s 0 0 (fun _ => False)) (F0 m 41 ls [.long j12]) := by
          intro ls hl
          refine lv_lstore hx hb d_M_times_41 hl (by decide) (lv' := [(4, .long j12), (8, .long u2), (6, .long u3)]) rfl (fun ls hl => ?_)
          refine lv_lload hx hb d_M_times_43 (lv_at hl 2 rfl) ?_
          refine lv_lload hx hb d_M_times_45 (lv_at hl 2 rfl) ?_
          obtain ⟨r16, e_r16, hF⟩ := Option.bind_eq_some_iff.mp hF
          refine vp_callSl (va_runS (As := [.long u3, .long u3]) (rest := []) ⟨hx, hb, hml, hown, hts⟩ (k_M_sum l u3 u3 r16 e_r16) (va_cwS 2 hts (ga_S ww_594 ww_595 ww_4 ww_596) rfl rfl rfl (by decide +kernel) ⟨by decide, by decide⟩) (pcs_pre hN) rfl rfl hl.1 rfl (lv_room (Nat.le_of_ble_eq_true rfl)) d_M_times_47 ⟨Nat.zero_le _, Nat.zero_le _⟩).run (fun z9 hz9 => ?_)
          obtain rfl : r16 = z9 := hz9.symm
          refine lv_lstore hx hb d_M_times_50 hl (by decide) (lv' := [(6, .long r16), (4, .long j12), (8, .long u2)]) rfl (fun ls hl => ?_)
          refine lv_lload hx hb d_M_times_52 (lv_at hl 2 rfl) ?_
          refine lv_ldc2 (v := 2) hx hb hown (hw _ ww_593) d_M_times_54 ?_
          refine lv_ldiv hx hb d_M_times_57 (by decide) ?_
          obtain ⟨v17, e_v17, hF⟩ := Option.bind_eq_some_iff.mp hF
          refine nm_l (Option.some.inj e_v17) ?_
          refine lv_lstore hx hb d_M_times_58 hl (by decide) (lv' := [(8, .long v17), (6, .long r16), (4, .long j12)]) rfl (fun ls hl => ?_)
          refine lv_goto hx hb d_M_times_60 (tgt := 11) (by decide) ?_
          exact ih v17 r16 j12 ls (lv_sub hl [0, 1, 2] rfl) hF
        clear hF
        have hF := q14
        refine lv_if_ne hx hb d_M_times_26 (tgt := 39) (by decide) (fun h9 => ?_) (fun h9 => ?_)
        · have hF := (if_neg h9).symm.trans hF
          refine lv_lload hx hb d_M_times_39 (lv_at hl 2 rfl) ?_
          obtain rfl := Option.some.inj hF
          exact k13 ls (lv_sub hl [0, 1] rfl)
        · have hF := (if_pos h9).symm.trans hF
          refine lv_lload hx hb d_M_times_29 (lv_at hl 2 rfl) ?_
          refine lv_lload hx hb d_M_times_31 (lv_at hl 1 rfl) ?_
          obtain ⟨r18, e_r18, hF⟩ := Option.bind_eq_some_iff.mp hF
          refine vp_callSl (va_runS (As := [.long u4, .long u3]) (rest := []) ⟨hx, hb, hml, hown, hts⟩ (k_M_sum l u4 u3 r18 e_r18) (va_cwS 2 hts (ga_S ww_594 ww_595 ww_4 ww_596) rfl rfl rfl (by decide +kernel) ⟨by decide, by decide⟩) (pcs_pre hN) rfl rfl hl.1 rfl (lv_room (Nat.le_of_ble_eq_true rfl)) d_M_times_33 ⟨Nat.zero_le _, Nat.zero_le _⟩).run (fun z9 hz9 => ?_)
          obtain rfl : r18 = z9 := hz9.symm
          refine lv_goto hx hb d_M_times_36 (tgt := 41) (by decide) ?_
          obtain rfl := Option.some.inj hF
          exact k13 ls (lv_sub hl [0, 1] rfl)
  exact k5 64 a0 a1 v1 ls (lv_sub hl [0, 1, 2] rfl) q19
def f_M_g  : Option Int64 := some (2263541708)
abbrev rm_M_g : Room := { frames := 0, cells := 0, slots := 0, locals := 0 }
set_option maxHeartbeats 4000000 in
set_option maxRecDepth 100000 in
theorem k_M_g (l : Launch)  (r : Int64) (hF : f_M_g  = some r) : Met l y_M_g (Cond.code y_M_g b_M_g 0 (some .long) :: wa) rm_M_g (pcs []) (vp_Sl (fun z => z = r)) 0 0 (fun _ => False) := by
  refine Met.ofW (cc := b_M_g) (maxL := 0) (ret := (some .long)) (by decide) rfl ?_
  intro p e s m args below meth c s₁ B hml hv
  obtain ⟨rfl, hN⟩ := hv
  have hx := B.exec
  have hb := B.bytes
  have hr := B.returns
  have hts := atoms_spec (ws := Cond.code y_M_g b_M_g 0 (some .long) :: wa) B.pre
  have hw : ∀ w ∈ wa, w.before _ s = true := fun w h => hts w (List.mem_cons_of_mem _ h)
  have hown : s.vm.findClass R_M = some m.cls := findClass_of_methodNamed B.named
  have hlocks := B.notSynchronized
  have hl := lv_entry ([]) (n := 0) (Nat.le_of_ble_eq_true rfl)
  rw [lg_entry_eq]
  generalize (lg_sl ([]) ++ List.replicate (0 - (lg_sl ([])).length) Slot.unset).toArray = ls at hl ⊢
  have hl : lv_has ls 0 [] := hl
  unfold f_M_g at hF
  refine lv_ldc2 (v := 2263541708) hx hb hown (hw _ ww_589) d_M_g_0 ?_
  obtain rfl := Option.some.inj hF
  exact W.lret hx hb hr (fun t ht hW => ⟨_, rfl, rfl, ht⟩) (fun _ h => nomatch h) d_M_g_3
def f_M_odd (a0 : Int64) : Option Int32 := Option.bind (f_M_yOf a0) (fun r1 => Option.bind (if (lg_cmp (r1 - r1 / 2 * 2) 1) = 0 then (some (1) : Option (Int32)) else (some (0))) (fun j2 => some (j2)))
abbrev rm_M_odd : Room := { frames := 1, cells := 0, slots := 0, locals := 21 }
set_option maxHeartbeats 4000000 in
set_option maxRecDepth 100000 in
theorem k_M_odd (l : Launch) (a0 : Int64) (r : Int32) (hF : f_M_odd a0 = some r) : Met l y_M_odd (Cond.code y_M_odd b_M_odd 2 (some .boolean) :: wa) rm_M_odd (pcs [.long a0]) (vp_Si (fun z => z = r)) 0 0 (fun _ => False) := by
  refine Met.ofW (cc := b_M_odd) (maxL := 2) (ret := (some .boolean)) (by decide) rfl ?_
  intro p e s m args below meth c s₁ B hml hv
  obtain ⟨rfl, hN⟩ := hv
  have hx := B.exec
  have hb := B.bytes
  have hr := B.returns
  have hts := atoms_spec (ws := Cond.code y_M_odd b_M_odd 2 (some .boolean) :: wa) B.pre
  have hw : ∀ w ∈ wa, w.before _ s = true := fun w h => hts w (List.mem_cons_of_mem _ h)
  have hown : s.vm.findClass R_M = some m.cls := findClass_of_methodNamed B.named
  have hlocks := B.notSynchronized
  have hl := lv_entry ([.long a0]) (n := 2) (Nat.le_of_ble_eq_true rfl)
  rw [lg_entry_eq]
  generalize (lg_sl ([.long a0]) ++ List.replicate (2 - (lg_sl ([.long a0])).length) Slot.unset).toArray = ls at hl ⊢
  have hl : lv_has ls 2 [(0, .long a0)] := hl
  unfold f_M_odd at hF
  refine lv_lload_n hx hb d_M_odd_0 rfl (lv_at hl 0 rfl) ?_
  obtain ⟨r1, e_r1, hF⟩ := Option.bind_eq_some_iff.mp hF
  refine vp_callSl (va_runS (As := [.long a0]) (rest := []) ⟨hx, hb, hml, hown, hts⟩ (k_M_yOf l a0 r1 e_r1) (va_cwS 1 hts (ga_S ww_601 ww_602 ww_4 ww_603) rfl rfl rfl (by decide +kernel) ⟨by decide, by decide⟩) (pcs_pre hN) rfl rfl hl.1 rfl (lv_room (Nat.le_of_ble_eq_true rfl)) d_M_odd_1 ⟨Nat.zero_le _, Nat.zero_le _⟩).run (fun z9 hz9 => ?_)
  obtain rfl : r1 = z9 := hz9.symm
  refine lv_ldc2 (v := 2) hx hb hown (hw _ ww_593) d_M_odd_4 ?_
  refine lv_lrem hx hb d_M_odd_7 (by decide) ?_
  refine lv_lconst (v := 1) hx hb d_M_odd_8 (by decide) ?_
  refine W.lcmp hx hb d_M_odd_9 ?_
  obtain ⟨j2, q4, hF⟩ := Option.bind_eq_some_iff.mp hF
  have z_j2 : j2 = 0 ∨ j2 = 1 := by
    have h := q4
    (repeat' (split at h)) <;> (obtain rfl := Option.some.inj h; first | exact Or.inl rfl | exact Or.inr rfl)
  have k3 : ∀ (ls : Array Slot), lv_has ls 2 [] → W p l e rm_M_odd s m ([Value.long a0] : List Value).toArray below meth c s.heap [] 0 0 (MQ below (vp_Si (fun z => z = r)) ([Value.long a0] : List Value).toArray s 0 0 (fun _ => False)) (F0 m 18 ls [.int j2]) := by
    intro ls hl
    obtain rfl := Option.some.inj hF
    exact W.zret hx hb hr (nz_b z_j2) (fun t ht hW => ⟨_, rfl, rfl, ht⟩) (fun _ h => nomatch h) d_M_odd_18
  clear hF
  have hF := q4
  refine lv_if_ne hx hb d_M_odd_10 (tgt := 17) (by decide) (fun h9 => ?_) (fun h9 => ?_)
  · have hF := (if_neg h9).symm.trans hF
    refine lv_iconst (v := 0) hx hb d_M_odd_17 (by decide) ?_
    obtain rfl := Option.some.inj hF
    exact k3 ls (lv_sub hl [] rfl)
  · have hF := (if_pos h9).symm.trans hF
    refine lv_iconst (v := 1) hx hb d_M_odd_13 (by decide) ?_
    refine lv_goto hx hb d_M_odd_14 (tgt := 18) (by decide) ?_
    obtain rfl := Option.some.inj hF
    exact k3 ls (lv_sub hl [] rfl)
def f_M_lift (a0 : Int64) (a1 : Int32) : Option Int64 := if (lg_cmp a0 0) < 0 then (some ((-1))) else (if (lg_cmp a0 1073735023) < 0 then (Option.bind (some (((((a0 * a0) - (a0 * a0) / 1073735023 * 1073735023) * a0) + 7) - ((((a0 * a0) - (a0 * a0) / 1073735023 * 1073735023) * a0) + 7) / 1073735023 * 1073735023)) (fun v1 => Option.bind (f_M_power v1 268433756 1073735023) (fun r2 => if (lg_cmp ((r2 * r2) - (r2 * r2) / 1073735023 * 1073735023) v1) = 0 then (Option.bind (if (lg_cmp (r2 - r2 / 2 * 2) 1) = 0 then (some (1) : Option (Int32)) else (some (0))) (fun j3 => Option.bind (if j3 = a1 then (some (r2) : Option (Int64)) else (some (1073735023 - r2))) (fun j7 => some ((a0 * 2147483648) + j7)))) else (some ((-1)))))) else (some ((-1))))
abbrev rm_M_lift : Room := { frames := 2, cells := 0, slots := 0, locals := 56 }
set_option maxHeartbeats 4000000 in
set_option maxRecDepth 100000 in
theorem k_M_lift (l : Launch) (a0 : Int64) (a1 : Int32) (r : Int64) (hF : f_M_lift a0 a1 = some r) : Met l y_M_lift (Cond.code y_M_lift b_M_lift 7 (some .long) :: wa) rm_M_lift (pcs [.long a0, .int a1]) (vp_Sl (fun z => z = r)) 0 0 (fun _ => False) := by
  refine Met.ofW (cc := b_M_lift) (maxL := 7) (ret := (some .long)) (by decide) rfl ?_
  intro p e s m args below meth c s₁ B hml hv
  obtain ⟨rfl, hN⟩ := hv
  have hx := B.exec
  have hb := B.bytes
  have hr := B.returns
  have hts := atoms_spec (ws := Cond.code y_M_lift b_M_lift 7 (some .long) :: wa) B.pre
  have hw : ∀ w ∈ wa, w.before _ s = true := fun w h => hts w (List.mem_cons_of_mem _ h)
  have hown : s.vm.findClass R_M = some m.cls := findClass_of_methodNamed B.named
  have hlocks := B.notSynchronized
  have hl := lv_entry ([.long a0, .int a1]) (n := 7) (Nat.le_of_ble_eq_true rfl)
  rw [lg_entry_eq]
  generalize (lg_sl ([.long a0, .int a1]) ++ List.replicate (7 - (lg_sl ([.long a0, .int a1])).length) Slot.unset).toArray = ls at hl ⊢
  have hl : lv_has ls 7 [(0, .long a0), (2, .int a1)] := hl
  unfold f_M_lift at hF
  refine lv_lload_n hx hb d_M_lift_0 rfl (lv_at hl 0 rfl) ?_
  refine lv_lconst (v := 0) hx hb d_M_lift_1 (by decide) ?_
  refine W.lcmp hx hb d_M_lift_2 ?_
  refine lv_if_lt hx hb d_M_lift_3 (tgt := 14) (by decide) (fun h9 => ?_) (fun h9 => ?_)
  · have hF := (if_pos h9).symm.trans hF
    refine lv_ldc2 (v := (-1)) hx hb hown (hw _ ww_533) d_M_lift_14 ?_
    obtain rfl := Option.some.inj hF
    exact W.lret hx hb hr (fun t ht hW => ⟨_, rfl, rfl, ht⟩) (fun _ h => nomatch h) d_M_lift_17
  · have hF := (if_neg h9).symm.trans hF
    refine lv_lload_n hx hb d_M_lift_6 rfl (lv_at hl 0 rfl) ?_
    refine lv_ldc2 (v := 1073735023) hx hb hown (hw _ ww_605) d_M_lift_7 ?_
    refine W.lcmp hx hb d_M_lift_10 ?_
    refine lv_if_lt hx hb d_M_lift_11 (tgt := 18) (by decide) (fun h9 => ?_) (fun h9 => ?_)
    · have hF := (if_pos h9).symm.trans hF
      refine lv_lload_n hx hb d_M_lift_18 rfl (lv_at hl 0 rfl) ?_
      refine lv_lload_n hx hb d_M_lift_19 rfl (lv_at hl 0 rfl) ?_
      refine lv_lmul hx hb d_M_lift_20 ?_
      refine lv_ldc2 (v := 1073735023) hx hb hown (hw _ ww_605) d_M_lift_21 ?_
      refine lv_lrem hx hb d_M_lift_24 (by decide) ?_
      refine lv_lload_n hx hb d_M_lift_25 rfl (lv_at hl 0 rfl) ?_
      refine lv_lmul hx hb d_M_lift_26 ?_
      refine lv_ldc2 (v := 7) hx hb hown (hw _ ww_629) d_M_lift_27 ?_
      refine lv_ladd hx hb d_M_lift_30 ?_
      refine lv_ldc2 (v := 1073735023) hx hb hown (hw _ ww_605) d_M_lift_31 ?_
      refine lv_lrem hx hb d_M_lift_34 (by decide) ?_
      obtain ⟨v1, e_v1, hF⟩ := Option.bind_eq_some_iff.mp hF
      refine nm_l (Option.some.inj e_v1) ?_
      refine lv_lstore_n hx hb d_M_lift_35 rfl hl (by decide) (lv' := [(3, .long v1), (0, .long a0), (2, .int a1)]) rfl (fun ls hl => ?_)
      refine lv_lload_n hx hb d_M_lift_36 rfl (lv_at hl 0 rfl) ?_
      refine lv_ldc2 (v := 268433756) hx hb hown (hw _ ww_630) d_M_lift_37 ?_
      refine lv_ldc2 (v := 1073735023) hx hb hown (hw _ ww_605) d_M_lift_40 ?_
      obtain ⟨r2, e_r2, hF⟩ := Option.bind_eq_some_iff.mp hF
      refine vp_callSl (va_runS (As := [.long v1, .long 268433756, .long 1073735023]) (rest := []) ⟨hx, hb, hml, hown, hts⟩ (k_M_power l v1 268433756 1073735023 r2 e_r2) (va_cwS 3 hts (ga_S ww_612 ww_613 ww_4 ww_614) rfl rfl rfl (by decide +kernel) ⟨by decide, by decide⟩) (pcs_pre hN) rfl rfl hl.1 rfl (lv_room (Nat.le_of_ble_eq_true rfl)) d_M_lift_43 ⟨Nat.zero_le _, Nat.zero_le _⟩).run (fun z9 hz9 => ?_)
      obtain rfl : r2 = z9 := hz9.symm
      refine lv_lstore hx hb d_M_lift_46 hl (by decide) (lv' := [(5, .long r2), (3, .long v1), (0, .long a0), (2, .int a1)]) rfl (fun ls hl => ?_)
      refine lv_lload hx hb d_M_lift_48 (lv_at hl 0 rfl) ?_
      refine lv_lload hx hb d_M_lift_50 (lv_at hl 0 rfl) ?_
      refine lv_lmul hx hb d_M_lift_52 ?_
      refine lv_ldc2 (v := 1073735023) hx hb hown (hw _ ww_605) d_M_lift_53 ?_
      refine lv_lrem hx hb d_M_lift_56 (by decide) ?_
      refine lv_lload_n hx hb d_M_lift_57 rfl (lv_at hl 1 rfl) ?_
      refine W.lcmp hx hb d_M_lift_58 ?_
      refine lv_if_eq hx hb d_M_lift_59 (tgt := 66) (by decide) (fun h9 => ?_) (fun h9 => ?_)
      · have hF := (if_pos h9).symm.trans hF
        refine lv_lload_n hx hb d_M_lift_66 rfl (lv_at hl 2 rfl) ?_
        refine lv_ldc2 (v := 2147483648) hx hb hown (hw _ ww_600) d_M_lift_67 ?_
        refine lv_lmul hx hb d_M_lift_70 ?_
        refine lv_lload hx hb d_M_lift_71 (lv_at hl 0 rfl) ?_
        refine lv_ldc2 (v := 2) hx hb hown (hw _ ww_593) d_M_lift_73 ?_
        refine lv_lrem hx hb d_M_lift_76 (by decide) ?_
        refine lv_lconst (v := 1) hx hb d_M_lift_77 (by decide) ?_
        refine W.lcmp hx hb d_M_lift_78 ?_
        obtain ⟨j3, q5, hF⟩ := Option.bind_eq_some_iff.mp hF
        have z_j3 : j3 = 0 ∨ j3 = 1 := by
          have h := q5
          (repeat' (split at h)) <;> (obtain rfl := Option.some.inj h; first | exact Or.inl rfl | exact Or.inr rfl)
        have k4 : ∀ (ls : Array Slot), lv_has ls 7 [(5, .long r2), (2, .int a1)] → W p l e rm_M_lift s m ([Value.long a0, Value.int a1] : List Value).toArray below meth c s.heap [] 0 0 (MQ below (vp_Sl (fun z => z = r)) ([Value.long a0, Value.int a1] : List Value).toArray s 0 0 (fun _ => False)) (F0 m 87 ls [.int j3, .long (a0 * 2147483648)]) := by
          intro ls hl
          refine lv_iload_n hx hb d_M_lift_87 rfl (lv_at hl 1 rfl) ?_
          obtain ⟨j7, q9, hF⟩ := Option.bind_eq_some_iff.mp hF
          have k8 : ∀ (ls : Array Slot), lv_has ls 7 [] → W p l e rm_M_lift s m ([Value.long a0, Value.int a1] : List Value).toArray below meth c s.heap [] 0 0 (MQ below (vp_Sl (fun z => z = r)) ([Value.long a0, Value.int a1] : List Value).toArray s 0 0 (fun _ => False)) (F0 m 102 ls [.long j7, .long (a0 * 2147483648)]) := by
            intro ls hl
            refine lv_ladd hx hb d_M_lift_102 ?_
            obtain rfl := Option.some.inj hF
            exact W.lret hx hb hr (fun t ht hW => ⟨_, rfl, rfl, ht⟩) (fun _ h => nomatch h) d_M_lift_103
          clear hF
          have hF := q9
          refine lv_icmp_ne hx hb d_M_lift_88 (tgt := 96) (by decide) (fun h9 => ?_) (fun h9 => ?_)
          · have hF := (if_neg h9).symm.trans hF
            refine lv_ldc2 (v := 1073735023) hx hb hown (hw _ ww_605) d_M_lift_96 ?_
            refine lv_lload hx hb d_M_lift_99 (lv_at hl 0 rfl) ?_
            refine lv_lsub hx hb d_M_lift_101 ?_
            obtain rfl := Option.some.inj hF
            exact k8 ls (lv_sub hl [] rfl)
          · have hF := (if_pos h9).symm.trans hF
            refine lv_lload hx hb d_M_lift_91 (lv_at hl 0 rfl) ?_
            refine lv_goto hx hb d_M_lift_93 (tgt := 102) (by decide) ?_
            obtain rfl := Option.some.inj hF
            exact k8 ls (lv_sub hl [] rfl)
        clear hF
        have hF := q5
        refine lv_if_ne hx hb d_M_lift_79 (tgt := 86) (by decide) (fun h9 => ?_) (fun h9 => ?_)
        · have hF := (if_neg h9).symm.trans hF
          refine lv_iconst (v := 0) hx hb d_M_lift_86 (by decide) ?_
          obtain rfl := Option.some.inj hF
          exact k4 ls (lv_sub hl [0, 3] rfl)
        · have hF := (if_pos h9).symm.trans hF
          refine lv_iconst (v := 1) hx hb d_M_lift_82 (by decide) ?_
          refine lv_goto hx hb d_M_lift_83 (tgt := 87) (by decide) ?_
          obtain rfl := Option.some.inj hF
          exact k4 ls (lv_sub hl [0, 3] rfl)
      · have hF := (if_neg h9).symm.trans hF
        refine lv_ldc2 (v := (-1)) hx hb hown (hw _ ww_533) d_M_lift_62 ?_
        obtain rfl := Option.some.inj hF
        exact W.lret hx hb hr (fun t ht hW => ⟨_, rfl, rfl, ht⟩) (fun _ h => nomatch h) d_M_lift_65
    · have hF := (if_neg h9).symm.trans hF
      refine lv_ldc2 (v := (-1)) hx hb hown (hw _ ww_533) d_M_lift_14 ?_
      obtain rfl := Option.some.inj hF
      exact W.lret hx hb hr (fun t ht hW => ⟨_, rfl, rfl, ht⟩) (fun _ h => nomatch h) d_M_lift_17
def f_M_codeOf (a0 : Int64) : Option Int64 := Option.bind (if (lg_cmp a0 (-1)) = 0 then (some (0) : Option (Int64)) else (Option.bind (f_M_yOf a0) (fun r5 => Option.bind (f_M_xOf a0) (fun r6 => some (((2 + (r5 - r5 / 2 * 2)) * 4294967296) + r6))))) (fun j1 => some (j1))
abbrev rm_M_codeOf : Room := { frames := 1, cells := 0, slots := 0, locals := 21 }
set_option maxHeartbeats 4000000 in
set_option maxRecDepth 100000 in
theorem k_M_codeOf (l : Launch) (a0 : Int64) (r : Int64) (hF : f_M_codeOf a0 = some r) : Met l y_M_codeOf (Cond.code y_M_codeOf b_M_codeOf 2 (some .long) :: wa) rm_M_codeOf (pcs [.long a0]) (vp_Sl (fun z => z = r)) 0 0 (fun _ => False) := by
  refine Met.ofW (cc := b_M_codeOf) (maxL := 2) (ret := (some .long)) (by decide) rfl ?_
  intro p e s m args below meth c s₁ B hml hv
  obtain ⟨rfl, hN⟩ := hv
  have hx := B.exec
  have hb := B.bytes
  have hr := B.returns
  have hts := atoms_spec (ws := Cond.code y_M_codeOf b_M_codeOf 2 (some .long) :: wa) B.pre
  have hw : ∀ w ∈ wa, w.before _ s = true := fun w h => hts w (List.mem_cons_of_mem _ h)
  have hown : s.vm.findClass R_M = some m.cls := findClass_of_methodNamed B.named
  have hlocks := B.notSynchronized
  have hl := lv_entry ([.long a0]) (n := 2) (Nat.le_of_ble_eq_true rfl)
  rw [lg_entry_eq]
  generalize (lg_sl ([.long a0]) ++ List.replicate (2 - (lg_sl ([.long a0])).length) Slot.unset).toArray = ls at hl ⊢
  have hl : lv_has ls 2 [(0, .long a0)] := hl
  unfold f_M_codeOf at hF
  refine lv_lload_n hx hb d_M_codeOf_0 rfl (lv_at hl 0 rfl) ?_
  refine lv_ldc2 (v := (-1)) hx hb hown (hw _ ww_533) d_M_codeOf_1 ?_
  refine W.lcmp hx hb d_M_codeOf_4 ?_
  obtain ⟨j1, q3, hF⟩ := Option.bind_eq_some_iff.mp hF
  have k2 : ∀ (ls : Array Slot), lv_has ls 2 [] → W p l e rm_M_codeOf s m ([Value.long a0] : List Value).toArray below meth c s.heap [] 0 0 (MQ below (vp_Sl (fun z => z = r)) ([Value.long a0] : List Value).toArray s 0 0 (fun _ => False)) (F0 m 33 ls [.long j1]) := by
    intro ls hl
    obtain rfl := Option.some.inj hF
    exact W.lret hx hb hr (fun t ht hW => ⟨_, rfl, rfl, ht⟩) (fun _ h => nomatch h) d_M_codeOf_33
  clear hF
  have hF := q3
  refine lv_if_ne hx hb d_M_codeOf_5 (tgt := 12) (by decide) (fun h9 => ?_) (fun h9 => ?_)
  · have hF := (if_neg h9).symm.trans hF
    refine lv_ldc2 (v := 2) hx hb hown (hw _ ww_593) d_M_codeOf_12 ?_
    refine lv_lload_n hx hb d_M_codeOf_15 rfl (lv_at hl 0 rfl) ?_
    obtain ⟨r5, e_r5, hF⟩ := Option.bind_eq_some_iff.mp hF
    refine vp_callSl (va_runS (As := [.long a0]) (rest := [.long 2]) ⟨hx, hb, hml, hown, hts⟩ (k_M_yOf l a0 r5 e_r5) (va_cwS 1 hts (ga_S ww_601 ww_602 ww_4 ww_603) rfl rfl rfl (by decide +kernel) ⟨by decide, by decide⟩) (pcs_pre hN) rfl rfl hl.1 rfl (lv_room (Nat.le_of_ble_eq_true rfl)) d_M_codeOf_16 ⟨Nat.zero_le _, Nat.zero_le _⟩).run (fun z9 hz9 => ?_)
    obtain rfl : r5 = z9 := hz9.symm
    refine lv_ldc2 (v := 2) hx hb hown (hw _ ww_593) d_M_codeOf_19 ?_
    refine lv_lrem hx hb d_M_codeOf_22 (by decide) ?_
    refine lv_ladd hx hb d_M_codeOf_23 ?_
    refine lv_ldc2 (v := 4294967296) hx hb hown (hw _ ww_618) d_M_codeOf_24 ?_
    refine lv_lmul hx hb d_M_codeOf_27 ?_
    refine lv_lload_n hx hb d_M_codeOf_28 rfl (lv_at hl 0 rfl) ?_
    obtain ⟨r6, e_r6, hF⟩ := Option.bind_eq_some_iff.mp hF
    refine vp_callSl (va_runS (As := [.long a0]) (rest := [.long ((2 + (r5 - r5 / 2 * 2)) * 4294967296)]) ⟨hx, hb, hml, hown, hts⟩ (k_M_xOf l a0 r6 e_r6) (va_cwS 1 hts (ga_S ww_597 ww_598 ww_4 ww_599) rfl rfl rfl (by decide +kernel) ⟨by decide, by decide⟩) (pcs_pre hN) rfl rfl hl.1 rfl (lv_room (Nat.le_of_ble_eq_true rfl)) d_M_codeOf_29 ⟨Nat.zero_le _, Nat.zero_le _⟩).run (fun z9 hz9 => ?_)
    obtain rfl : r6 = z9 := hz9.symm
    refine lv_ladd hx hb d_M_codeOf_32 ?_
    obtain rfl := Option.some.inj hF
    exact k2 ls (lv_sub hl [] rfl)
  · have hF := (if_pos h9).symm.trans hF
    refine lv_lconst (v := 0) hx hb d_M_codeOf_8 (by decide) ?_
    refine lv_goto hx hb d_M_codeOf_9 (tgt := 33) (by decide) ?_
    obtain rfl := Option.some.inj hF
    exact k2 ls (lv_sub hl [] rfl)
def f_M_pointOf (a0 : Int64) : Option Int64 := Option.bind (some (a0 >>> ((Int32.toInt64 32) &&& 63))) (fun v1 => Option.bind (if (lg_cmp v1 2) = 0 then (Option.bind (if (lg_cmp v1 3) = 0 then (some (1) : Option (Int32)) else (some (0))) (fun j6 => Option.bind (f_M_lift (a0 - (v1 * 4294967296)) j6) (fun r10 => some (r10))) : Option (Int64)) else (if (lg_cmp v1 3) = 0 then (Option.bind (if (lg_cmp v1 3) = 0 then (some (1) : Option (Int32)) else (some (0))) (fun j11 => Option.bind (f_M_lift (a0 - (v1 * 4294967296)) j11) (fun r15 => some (r15)))) else (some ((-1))))) (fun j2 => some (j2)))
abbrev rm_M_pointOf : Room := { frames := 3, cells := 0, slots := 0, locals := 82 }
set_option maxHeartbeats 4000000 in
set_option maxRecDepth 100000 in
theorem k_M_pointOf (l : Launch) (a0 : Int64) (r : Int64) (hF : f_M_pointOf a0 = some r) : Met l y_M_pointOf (Cond.code y_M_pointOf b_M_pointOf 4 (some .long) :: wa) rm_M_pointOf (pcs [.long a0]) (vp_Sl (fun z => z = r)) 0 0 (fun _ => False) := by
  refine Met.ofW (cc := b_M_pointOf) (maxL := 4) (ret := (some .long)) (by decide) rfl ?_
  intro p e s m args below meth c s₁ B hml hv
  obtain ⟨rfl, hN⟩ := hv
  have hx := B.exec
  have hb := B.bytes
  have hr := B.returns
  have hts := atoms_spec (ws := Cond.code y_M_pointOf b_M_pointOf 4 (some .long) :: wa) B.pre
  have hw : ∀ w ∈ wa, w.before _ s = true := fun w h => hts w (List.mem_cons_of_mem _ h)
  have hown : s.vm.findClass R_M = some m.cls := findClass_of_methodNamed B.named
  have hlocks := B.notSynchronized
  have hl := lv_entry ([.long a0]) (n := 4) (Nat.le_of_ble_eq_true rfl)
  rw [lg_entry_eq]
  generalize (lg_sl ([.long a0]) ++ List.replicate (4 - (lg_sl ([.long a0])).length) Slot.unset).toArray = ls at hl ⊢
  have hl : lv_has ls 4 [(0, .long a0)] := hl
  unfold f_M_pointOf at hF
  refine lv_lload_n hx hb d_M_pointOf_0 rfl (lv_at hl 0 rfl) ?_
  refine lv_bipush (v := 32) hx hb d_M_pointOf_1 (by decide) ?_
  refine lv_lshr (v := a0 >>> ((Int32.toInt64 32) &&& 63)) hx hb d_M_pointOf_3 rfl ?_
  obtain ⟨v1, e_v1, hF⟩ := Option.bind_eq_some_iff.mp hF
  refine nm_l (Option.some.inj e_v1) ?_
  refine lv_lstore_n hx hb d_M_pointOf_4 rfl hl (by decide) (lv' := [(2, .long v1), (0, .long a0)]) rfl (fun ls hl => ?_)
  refine lv_lload_n hx hb d_M_pointOf_5 rfl (lv_at hl 0 rfl) ?_
  refine lv_ldc2 (v := 2) hx hb hown (hw _ ww_593) d_M_pointOf_6 ?_
  refine W.lcmp hx hb d_M_pointOf_9 ?_
  obtain ⟨j2, q4, hF⟩ := Option.bind_eq_some_iff.mp hF
  have k3 : ∀ (ls : Array Slot), lv_has ls 4 [] → W p l e rm_M_pointOf s m ([Value.long a0] : List Value).toArray below meth c s.heap [] 0 0 (MQ below (vp_Sl (fun z => z = r)) ([Value.long a0] : List Value).toArray s 0 0 (fun _ => False)) (F0 m 50 ls [.long j2]) := by
    intro ls hl
    obtain rfl := Option.some.inj hF
    exact W.lret hx hb hr (fun t ht hW => ⟨_, rfl, rfl, ht⟩) (fun _ h => nomatch h) d_M_pointOf_50
  clear hF
  have hF := q4
  refine lv_if_eq hx hb d_M_pointOf_10 (tgt := 21) (by decide) (fun h9 => ?_) (fun h9 => ?_)
  · have hF := (if_pos h9).symm.trans hF
    refine lv_lload_n hx hb d_M_pointOf_21 rfl (lv_at hl 1 rfl) ?_
    refine lv_lload_n hx hb d_M_pointOf_22 rfl (lv_at hl 0 rfl) ?_
    refine lv_ldc2 (v := 4294967296) hx hb hown (hw _ ww_618) d_M_pointOf_23 ?_
    refine lv_lmul hx hb d_M_pointOf_26 ?_
    refine lv_lsub hx hb d_M_pointOf_27 ?_
    refine lv_lload_n hx hb d_M_pointOf_28 rfl (lv_at hl 0 rfl) ?_
    refine lv_ldc2 (v := 3) hx hb hown (hw _ ww_604) d_M_pointOf_29 ?_
    refine W.lcmp hx hb d_M_pointOf_32 ?_
    obtain ⟨j6, q8, hF⟩ := Option.bind_eq_some_iff.mp hF
    have z_j6 : j6 = 0 ∨ j6 = 1 := by
      have h := q8
      (repeat' (split at h)) <;> (obtain rfl := Option.some.inj h; first | exact Or.inl rfl | exact Or.inr rfl)
    have k7 : ∀ (ls : Array Slot), lv_has ls 4 [] → W p l e rm_M_pointOf s m ([Value.long a0] : List Value).toArray below meth c s.heap [] 0 0 (MQ below (vp_Sl (fun z => z = r)) ([Value.long a0] : List Value).toArray s 0 0 (fun _ => False)) (F0 m 41 ls [.int j6, .long (a0 - (v1 * 4294967296))]) := by
      intro ls hl
      obtain ⟨r10, e_r10, hF⟩ := Option.bind_eq_some_iff.mp hF
      refine vp_callSl (va_runS (As := [.long (a0 - (v1 * 4294967296)), .int j6]) (rest := []) ⟨hx, hb, hml, hown, hts⟩ (k_M_lift l (a0 - (v1 * 4294967296)) j6 r10 e_r10) (va_cwS 2 hts (ga_S ww_626 ww_627 ww_4 ww_628) rfl rfl rfl (by decide +kernel) ⟨by decide, by decide⟩) (pcs_pre hN) rfl rfl hl.1 rfl (lv_room (Nat.le_of_ble_eq_true rfl)) d_M_pointOf_41 ⟨Nat.zero_le _, Nat.zero_le _⟩).run (fun z9 hz9 => ?_)
      obtain rfl : r10 = z9 := hz9.symm
      refine lv_goto hx hb d_M_pointOf_44 (tgt := 50) (by decide) ?_
      obtain rfl := Option.some.inj hF
      exact k3 ls (lv_sub hl [] rfl)
    clear hF
    have hF := q8
    refine lv_if_ne hx hb d_M_pointOf_33 (tgt := 40) (by decide) (fun h9 => ?_) (fun h9 => ?_)
    · have hF := (if_neg h9).symm.trans hF
      refine lv_iconst (v := 0) hx hb d_M_pointOf_40 (by decide) ?_
      obtain rfl := Option.some.inj hF
      exact k7 ls (lv_sub hl [] rfl)
    · have hF := (if_pos h9).symm.trans hF
      refine lv_iconst (v := 1) hx hb d_M_pointOf_36 (by decide) ?_
      refine lv_goto hx hb d_M_pointOf_37 (tgt := 41) (by decide) ?_
      obtain rfl := Option.some.inj hF
      exact k7 ls (lv_sub hl [] rfl)
  · have hF := (if_neg h9).symm.trans hF
    refine lv_lload_n hx hb d_M_pointOf_13 rfl (lv_at hl 0 rfl) ?_
    refine lv_ldc2 (v := 3) hx hb hown (hw _ ww_604) d_M_pointOf_14 ?_
    refine W.lcmp hx hb d_M_pointOf_17 ?_
    refine lv_if_ne hx hb d_M_pointOf_18 (tgt := 47) (by decide) (fun h9 => ?_) (fun h9 => ?_)
    · have hF := (if_neg h9).symm.trans hF
      refine lv_ldc2 (v := (-1)) hx hb hown (hw _ ww_533) d_M_pointOf_47 ?_
      obtain rfl := Option.some.inj hF
      exact k3 ls (lv_sub hl [] rfl)
    · have hF := (if_pos h9).symm.trans hF
      refine lv_lload_n hx hb d_M_pointOf_21 rfl (lv_at hl 1 rfl) ?_
      refine lv_lload_n hx hb d_M_pointOf_22 rfl (lv_at hl 0 rfl) ?_
      refine lv_ldc2 (v := 4294967296) hx hb hown (hw _ ww_618) d_M_pointOf_23 ?_
      refine lv_lmul hx hb d_M_pointOf_26 ?_
      refine lv_lsub hx hb d_M_pointOf_27 ?_
      refine lv_lload_n hx hb d_M_pointOf_28 rfl (lv_at hl 0 rfl) ?_
      refine lv_ldc2 (v := 3) hx hb hown (hw _ ww_604) d_M_pointOf_29 ?_
      refine W.lcmp hx hb d_M_pointOf_32 ?_
      obtain ⟨j11, q13, hF⟩ := Option.bind_eq_some_iff.mp hF
      have z_j11 : j11 = 0 ∨ j11 = 1 := by
        have h := q13
        (repeat' (split at h)) <;> (obtain rfl := Option.some.inj h; first | exact Or.inl rfl | exact Or.inr rfl)
      have k12 : ∀ (ls : Array Slot), lv_has ls 4 [] → W p l e rm_M_pointOf s m ([Value.long a0] : List Value).toArray below meth c s.heap [] 0 0 (MQ below (vp_Sl (fun z => z = r)) ([Value.long a0] : List Value).toArray s 0 0 (fun _ => False)) (F0 m 41 ls [.int j11, .long (a0 - (v1 * 4294967296))]) := by
        intro ls hl
        obtain ⟨r15, e_r15, hF⟩ := Option.bind_eq_some_iff.mp hF
        refine vp_callSl (va_runS (As := [.long (a0 - (v1 * 4294967296)), .int j11]) (rest := []) ⟨hx, hb, hml, hown, hts⟩ (k_M_lift l (a0 - (v1 * 4294967296)) j11 r15 e_r15) (va_cwS 2 hts (ga_S ww_626 ww_627 ww_4 ww_628) rfl rfl rfl (by decide +kernel) ⟨by decide, by decide⟩) (pcs_pre hN) rfl rfl hl.1 rfl (lv_room (Nat.le_of_ble_eq_true rfl)) d_M_pointOf_41 ⟨Nat.zero_le _, Nat.zero_le _⟩).run (fun z9 hz9 => ?_)
        obtain rfl : r15 = z9 := hz9.symm
        refine lv_goto hx hb d_M_pointOf_44 (tgt := 50) (by decide) ?_
        obtain rfl := Option.some.inj hF
        exact k3 ls (lv_sub hl [] rfl)
      clear hF
      have hF := q13
      refine lv_if_ne hx hb d_M_pointOf_33 (tgt := 40) (by decide) (fun h9 => ?_) (fun h9 => ?_)
      · have hF := (if_neg h9).symm.trans hF
        refine lv_iconst (v := 0) hx hb d_M_pointOf_40 (by decide) ?_
        obtain rfl := Option.some.inj hF
        exact k12 ls (lv_sub hl [] rfl)
      · have hF := (if_pos h9).symm.trans hF
        refine lv_iconst (v := 1) hx hb d_M_pointOf_36 (by decide) ?_
        refine lv_goto hx hb d_M_pointOf_37 (tgt := 41) (by decide) ?_
        obtain rfl := Option.some.inj hF
        exact k12 ls (lv_sub hl [] rfl)
def f_M_isSlot (a0 : Int32) : Option Int32 := Option.bind (if a0 < 0 then (some (0) : Option (Int32)) else (if 5 < a0 then (some (0)) else (some (1)))) (fun j1 => some (j1))
abbrev rm_M_isSlot : Room := { frames := 0, cells := 0, slots := 0, locals := 0 }
set_option maxHeartbeats 4000000 in
set_option maxRecDepth 100000 in
theorem k_M_isSlot (l : Launch) (a0 : Int32) (r : Int32) (hF : f_M_isSlot a0 = some r) : Met l y_M_isSlot (Cond.code y_M_isSlot b_M_isSlot 1 (some .boolean) :: wa) rm_M_isSlot (pcs [.int a0]) (vp_Si (fun z => z = r)) 0 0 (fun _ => False) := by
  refine Met.ofW (cc := b_M_isSlot) (maxL := 1) (ret := (some .boolean)) (by decide) rfl ?_
  intro p e s m args below meth c s₁ B hml hv
  obtain ⟨rfl, hN⟩ := hv
  have hx := B.exec
  have hb := B.bytes
  have hr := B.returns
  have hts := atoms_spec (ws := Cond.code y_M_isSlot b_M_isSlot 1 (some .boolean) :: wa) B.pre
  have hw : ∀ w ∈ wa, w.before _ s = true := fun w h => hts w (List.mem_cons_of_mem _ h)
  have hown : s.vm.findClass R_M = some m.cls := findClass_of_methodNamed B.named
  have hlocks := B.notSynchronized
  have hl := lv_entry ([.int a0]) (n := 1) (Nat.le_of_ble_eq_true rfl)
  rw [lg_entry_eq]
  generalize (lg_sl ([.int a0]) ++ List.replicate (1 - (lg_sl ([.int a0])).length) Slot.unset).toArray = ls at hl ⊢
  have hl : lv_has ls 1 [(0, .int a0)] := hl
  unfold f_M_isSlot at hF
  refine lv_iload_n hx hb d_M_isSlot_0 rfl (lv_at hl 0 rfl) ?_
  obtain ⟨j1, q3, hF⟩ := Option.bind_eq_some_iff.mp hF
  have z_j1 : j1 = 0 ∨ j1 = 1 := by
    have h := q3
    (repeat' (split at h)) <;> (obtain rfl := Option.some.inj h; first | exact Or.inl rfl | exact Or.inr rfl)
  have k2 : ∀ (ls : Array Slot), lv_has ls 1 [] → W p l e rm_M_isSlot s m ([Value.int a0] : List Value).toArray below meth c s.heap [] 0 0 (MQ below (vp_Si (fun z => z = r)) ([Value.int a0] : List Value).toArray s 0 0 (fun _ => False)) (F0 m 14 ls [.int j1]) := by
    intro ls hl
    obtain rfl := Option.some.inj hF
    exact W.zret hx hb hr (nz_b z_j1) (fun t ht hW => ⟨_, rfl, rfl, ht⟩) (fun _ h => nomatch h) d_M_isSlot_14
  clear hF
  have hF := q3
  refine lv_if_lt hx hb d_M_isSlot_1 (tgt := 13) (by decide) (fun h9 => ?_) (fun h9 => ?_)
  · have hF := (if_pos h9).symm.trans hF
    refine lv_iconst (v := 0) hx hb d_M_isSlot_13 (by decide) ?_
    obtain rfl := Option.some.inj hF
    exact k2 ls (lv_sub hl [] rfl)
  · have hF := (if_neg h9).symm.trans hF
    refine lv_iload_n hx hb d_M_isSlot_4 rfl (lv_at hl 0 rfl) ?_
    refine lv_iconst (v := 5) hx hb d_M_isSlot_5 (by decide) ?_
    refine lv_icmp_gt hx hb d_M_isSlot_6 (tgt := 13) (by decide) (fun h9 => ?_) (fun h9 => ?_)
    · have hF := (if_pos h9).symm.trans hF
      refine lv_iconst (v := 0) hx hb d_M_isSlot_13 (by decide) ?_
      obtain rfl := Option.some.inj hF
      exact k2 ls (lv_sub hl [] rfl)
    · have hF := (if_neg h9).symm.trans hF
      refine lv_iconst (v := 1) hx hb d_M_isSlot_9 (by decide) ?_
      refine lv_goto hx hb d_M_isSlot_10 (tgt := 14) (by decide) ?_
      obtain rfl := Option.some.inj hF
      exact k2 ls (lv_sub hl [] rfl)
def f_M_isScalar (a0 : Int32) : Option Int32 := Option.bind (if a0 < 0 then (some (0) : Option (Int32)) else (if 0 ≤ (lg_cmp (Int32.toInt64 a0) 1073729077) then (some (0)) else (some (1)))) (fun j1 => some (j1))
abbrev rm_M_isScalar : Room := { frames := 0, cells := 0, slots := 0, locals := 0 }
set_option maxHeartbeats 4000000 in
set_option maxRecDepth 100000 in
theorem k_M_isScalar (l : Launch) (a0 : Int32) (r : Int32) (hF : f_M_isScalar a0 = some r) : Met l y_M_isScalar (Cond.code y_M_isScalar b_M_isScalar 1 (some .boolean) :: wa) rm_M_isScalar (pcs [.int a0]) (vp_Si (fun z => z = r)) 0 0 (fun _ => False) := by
  refine Met.ofW (cc := b_M_isScalar) (maxL := 1) (ret := (some .boolean)) (by decide) rfl ?_
  intro p e s m args below meth c s₁ B hml hv
  obtain ⟨rfl, hN⟩ := hv
  have hx := B.exec
  have hb := B.bytes
  have hr := B.returns
  have hts := atoms_spec (ws := Cond.code y_M_isScalar b_M_isScalar 1 (some .boolean) :: wa) B.pre
  have hw : ∀ w ∈ wa, w.before _ s = true := fun w h => hts w (List.mem_cons_of_mem _ h)
  have hown : s.vm.findClass R_M = some m.cls := findClass_of_methodNamed B.named
  have hlocks := B.notSynchronized
  have hl := lv_entry ([.int a0]) (n := 1) (Nat.le_of_ble_eq_true rfl)
  rw [lg_entry_eq]
  generalize (lg_sl ([.int a0]) ++ List.replicate (1 - (lg_sl ([.int a0])).length) Slot.unset).toArray = ls at hl ⊢
  have hl : lv_has ls 1 [(0, .int a0)] := hl
  unfold f_M_isScalar at hF
  refine lv_iload_n hx hb d_M_isScalar_0 rfl (lv_at hl 0 rfl) ?_
  obtain ⟨j1, q3, hF⟩ := Option.bind_eq_some_iff.mp hF
  have z_j1 : j1 = 0 ∨ j1 = 1 := by
    have h := q3
    (repeat' (split at h)) <;> (obtain rfl := Option.some.inj h; first | exact Or.inl rfl | exact Or.inr rfl)
  have k2 : ∀ (ls : Array Slot), lv_has ls 1 [] → W p l e rm_M_isScalar s m ([Value.int a0] : List Value).toArray below meth c s.heap [] 0 0 (MQ below (vp_Si (fun z => z = r)) ([Value.int a0] : List Value).toArray s 0 0 (fun _ => False)) (F0 m 18 ls [.int j1]) := by
    intro ls hl
    obtain rfl := Option.some.inj hF
    exact W.zret hx hb hr (nz_b z_j1) (fun t ht hW => ⟨_, rfl, rfl, ht⟩) (fun _ h => nomatch h) d_M_isScalar_18
  clear hF
  have hF := q3
  refine lv_if_lt hx hb d_M_isScalar_1 (tgt := 17) (by decide) (fun h9 => ?_) (fun h9 => ?_)
  · have hF := (if_pos h9).symm.trans hF
    refine lv_iconst (v := 0) hx hb d_M_isScalar_17 (by decide) ?_
    obtain rfl := Option.some.inj hF
    exact k2 ls (lv_sub hl [] rfl)
  · have hF := (if_neg h9).symm.trans hF
    refine lv_iload_n hx hb d_M_isScalar_4 rfl (lv_at hl 0 rfl) ?_
    refine lv_i2l (v := Int32.toInt64 a0) hx hb d_M_isScalar_5 rfl ?_
    refine lv_ldc2 (v := 1073729077) hx hb hown (hw _ ww_585) d_M_isScalar_6 ?_
    refine W.lcmp hx hb d_M_isScalar_9 ?_
    refine lv_if_ge hx hb d_M_isScalar_10 (tgt := 17) (by decide) (fun h9 => ?_) (fun h9 => ?_)
    · have hF := (if_pos h9).symm.trans hF
      refine lv_iconst (v := 0) hx hb d_M_isScalar_17 (by decide) ?_
      obtain rfl := Option.some.inj hF
      exact k2 ls (lv_sub hl [] rfl)
    · have hF := (if_neg h9).symm.trans hF
      refine lv_iconst (v := 1) hx hb d_M_isScalar_13 (by decide) ?_
      refine lv_goto hx hb d_M_isScalar_14 (tgt := 18) (by decide) ?_
      obtain rfl := Option.some.inj hF
      exact k2 ls (lv_sub hl [] rfl)
def f_M_challenge (a0 : Int64) (a1 : Int64) (a2 : Int64) : Option Int64 := Option.bind (f_M_h ((a0 * 4294967296) + a1) 29) (fun r1 => Option.bind (f_M_h r1 a2) (fun r2 => some (((Int64.toUInt64 r2 >>> ((Int32.toInt64 33).toUInt64 &&& Int64.toUInt64 63)).toInt64) - ((Int64.toUInt64 r2 >>> ((Int32.toInt64 33).toUInt64 &&& Int64.toUInt64 63)).toInt64) / 1073729077 * 1073729077)))
abbrev rm_M_challenge : Room := { frames := 1, cells := 0, slots := 0, locals := 25 }
set_option maxHeartbeats 4000000 in
set_option maxRecDepth 100000 in
theorem k_M_challenge (l : Launch) (a0 : Int64) (a1 : Int64) (a2 : Int64) (r : Int64) (hF : f_M_challenge a0 a1 a2 = some r) : Met l y_M_challenge (Cond.code y_M_challenge b_M_challenge 6 (some .long) :: wa) rm_M_challenge (pcs [.long a0, .long a1, .long a2]) (vp_Sl (fun z => z = r)) 0 0 (fun _ => False) := by
  refine Met.ofW (cc := b_M_challenge) (maxL := 6) (ret := (some .long)) (by decide) rfl ?_
  intro p e s m args below meth c s₁ B hml hv
  obtain ⟨rfl, hN⟩ := hv
  have hx := B.exec
  have hb := B.bytes
  have hr := B.returns
  have hts := atoms_spec (ws := Cond.code y_M_challenge b_M_challenge 6 (some .long) :: wa) B.pre
  have hw : ∀ w ∈ wa, w.before _ s = true := fun w h => hts w (List.mem_cons_of_mem _ h)
  have hown : s.vm.findClass R_M = some m.cls := findClass_of_methodNamed B.named
  have hlocks := B.notSynchronized
  have hl := lv_entry ([.long a0, .long a1, .long a2]) (n := 6) (Nat.le_of_ble_eq_true rfl)
  rw [lg_entry_eq]
  generalize (lg_sl ([.long a0, .long a1, .long a2]) ++ List.replicate (6 - (lg_sl ([.long a0, .long a1, .long a2])).length) Slot.unset).toArray = ls at hl ⊢
  have hl : lv_has ls 6 [(0, .long a0), (2, .long a1), (4, .long a2)] := hl
  unfold f_M_challenge at hF
  refine lv_lload_n hx hb d_M_challenge_0 rfl (lv_at hl 0 rfl) ?_
  refine lv_ldc2 (v := 4294967296) hx hb hown (hw _ ww_618) d_M_challenge_1 ?_
  refine lv_lmul hx hb d_M_challenge_4 ?_
  refine lv_lload_n hx hb d_M_challenge_5 rfl (lv_at hl 1 rfl) ?_
  refine lv_ladd hx hb d_M_challenge_6 ?_
  refine lv_ldc2 (v := 29) hx hb hown (hw _ ww_708) d_M_challenge_7 ?_
  obtain ⟨r1, e_r1, hF⟩ := Option.bind_eq_some_iff.mp hF
  refine vp_callSl (va_runS (As := [.long ((a0 * 4294967296) + a1), .long 29]) (rest := []) ⟨hx, hb, hml, hown, hts⟩ (k_M_h l ((a0 * 4294967296) + a1) 29 r1 e_r1) (va_cwS 2 hts (ga_S ww_674 ww_675 ww_4 ww_676) rfl rfl rfl (by decide +kernel) ⟨by decide, by decide⟩) (pcs_pre hN) rfl rfl hl.1 rfl (lv_room (Nat.le_of_ble_eq_true rfl)) d_M_challenge_10 ⟨Nat.zero_le _, Nat.zero_le _⟩).run (fun z9 hz9 => ?_)
  obtain rfl : r1 = z9 := hz9.symm
  refine lv_lload hx hb d_M_challenge_13 (lv_at hl 2 rfl) ?_
  obtain ⟨r2, e_r2, hF⟩ := Option.bind_eq_some_iff.mp hF
  refine vp_callSl (va_runS (As := [.long r1, .long a2]) (rest := []) ⟨hx, hb, hml, hown, hts⟩ (k_M_h l r1 a2 r2 e_r2) (va_cwS 2 hts (ga_S ww_674 ww_675 ww_4 ww_676) rfl rfl rfl (by decide +kernel) ⟨by decide, by decide⟩) (pcs_pre hN) rfl rfl hl.1 rfl (lv_room (Nat.le_of_ble_eq_true rfl)) d_M_challenge_15 ⟨Nat.zero_le _, Nat.zero_le _⟩).run (fun z9 hz9 => ?_)
  obtain rfl : r2 = z9 := hz9.symm
  refine lv_bipush (v := 33) hx hb d_M_challenge_18 (by decide) ?_
  refine lv_lushr (v := (Int64.toUInt64 r2 >>> ((Int32.toInt64 33).toUInt64 &&& Int64.toUInt64 63)).toInt64) hx hb d_M_challenge_20 rfl ?_
  refine lv_ldc2 (v := 1073729077) hx hb hown (hw _ ww_585) d_M_challenge_21 ?_
  refine lv_lrem hx hb d_M_challenge_24 (by decide) ?_
  obtain rfl := Option.some.inj hF
  exact W.lret hx hb hr (fun t ht hW => ⟨_, rfl, rfl, ht⟩) (fun _ h => nomatch h) d_M_challenge_25
def f_M_bytesOf (a0 : Int32) : Option Int32 := Option.bind (if 128 ≤ a0 then (if 32768 ≤ a0 then (if 8388608 ≤ a0 then (some (4)) else (some (3))) else (some (2)) : Option (Int32)) else (some (1))) (fun j1 => some (j1))
abbrev rm_M_bytesOf : Room := { frames := 0, cells := 0, slots := 0, locals := 0 }
set_option maxHeartbeats 4000000 in
set_option maxRecDepth 100000 in
theorem k_M_bytesOf (l : Launch) (a0 : Int32) (r : Int32) (hF : f_M_bytesOf a0 = some r) : Met l y_M_bytesOf (Cond.code y_M_bytesOf b_M_bytesOf 1 (some .int) :: wa) rm_M_bytesOf (pcs [.int a0]) (vp_Si (fun z => z = r)) 0 0 (fun _ => False) := by
  refine Met.ofW (cc := b_M_bytesOf) (maxL := 1) (ret := (some .int)) (by decide) rfl ?_
  intro p e s m args below meth c s₁ B hml hv
  obtain ⟨rfl, hN⟩ := hv
  have hx := B.exec
  have hb := B.bytes
  have hr := B.returns
  have hts := atoms_spec (ws := Cond.code y_M_bytesOf b_M_bytesOf 1 (some .int) :: wa) B.pre
  have hw : ∀ w ∈ wa, w.before _ s = true := fun w h => hts w (List.mem_cons_of_mem _ h)
  have hown : s.vm.findClass R_M = some m.cls := findClass_of_methodNamed B.named
  have hlocks := B.notSynchronized
  have hl := lv_entry ([.int a0]) (n := 1) (Nat.le_of_ble_eq_true rfl)
  rw [lg_entry_eq]
  generalize (lg_sl ([.int a0]) ++ List.replicate (1 - (lg_sl ([.int a0])).length) Slot.unset).toArray = ls at hl ⊢
  have hl : lv_has ls 1 [(0, .int a0)] := hl
  unfold f_M_bytesOf at hF
  refine lv_iload_n hx hb d_M_bytesOf_0 rfl (lv_at hl 0 rfl) ?_
  refine lv_sipush (v := 128) hx hb d_M_bytesOf_1 (by decide) ?_
  obtain ⟨j1, q3, hF⟩ := Option.bind_eq_some_iff.mp hF
  have k2 : ∀ (ls : Array Slot), lv_has ls 1 [] → W p l e rm_M_bytesOf s m ([Value.int a0] : List Value).toArray below meth c s.heap [] 0 0 (MQ below (vp_Si (fun z => z = r)) ([Value.int a0] : List Value).toArray s 0 0 (fun _ => False)) (F0 m 32 ls [.int j1]) := by
    intro ls hl
    obtain rfl := Option.some.inj hF
    exact W.iret hx hb hr (fun t ht hW => ⟨_, rfl, rfl, ht⟩) (fun _ h => nomatch h) d_M_bytesOf_32
  clear hF
  have hF := q3
  refine lv_icmp_ge hx hb d_M_bytesOf_4 (tgt := 11) (by decide) (fun h9 => ?_) (fun h9 => ?_)
  · have hF := (if_pos h9).symm.trans hF
    refine lv_iload_n hx hb d_M_bytesOf_11 rfl (lv_at hl 0 rfl) ?_
    refine lv_ldc (v := 32768) hx hb hown (hw _ ww_741) d_M_bytesOf_12 ?_
    refine lv_icmp_ge hx hb d_M_bytesOf_14 (tgt := 21) (by decide) (fun h9 => ?_) (fun h9 => ?_)
    · have hF := (if_pos h9).symm.trans hF
      refine lv_iload_n hx hb d_M_bytesOf_21 rfl (lv_at hl 0 rfl) ?_
      refine lv_ldc (v := 8388608) hx hb hown (hw _ ww_742) d_M_bytesOf_22 ?_
      refine lv_icmp_ge hx hb d_M_bytesOf_24 (tgt := 31) (by decide) (fun h9 => ?_) (fun h9 => ?_)
      · have hF := (if_pos h9).symm.trans hF
        refine lv_iconst (v := 4) hx hb d_M_bytesOf_31 (by decide) ?_
        obtain rfl := Option.some.inj hF
        exact k2 ls (lv_sub hl [] rfl)
      · have hF := (if_neg h9).symm.trans hF
        refine lv_iconst (v := 3) hx hb d_M_bytesOf_27 (by decide) ?_
        refine lv_goto hx hb d_M_bytesOf_28 (tgt := 32) (by decide) ?_
        obtain rfl := Option.some.inj hF
        exact k2 ls (lv_sub hl [] rfl)
    · have hF := (if_neg h9).symm.trans hF
      refine lv_iconst (v := 2) hx hb d_M_bytesOf_17 (by decide) ?_
      refine lv_goto hx hb d_M_bytesOf_18 (tgt := 32) (by decide) ?_
      obtain rfl := Option.some.inj hF
      exact k2 ls (lv_sub hl [] rfl)
  · have hF := (if_neg h9).symm.trans hF
    refine lv_iconst (v := 1) hx hb d_M_bytesOf_7 (by decide) ?_
    refine lv_goto hx hb d_M_bytesOf_8 (tgt := 32) (by decide) ?_
    obtain rfl := Option.some.inj hF
    exact k2 ls (lv_sub hl [] rfl)
