/-! Contracts of methods that touch no cells, by program: f_.. mirrors the code, k_.. says that the code does it. -/
section
variable {p : Program} {l : Launch} {e : Env} {R : Room} {s : State} {m : MethodId} {args : Array Value} {below : List Frame} {meth : Method} {c : Code} {H : Heap} {locs : List Loc} {cells slots : Nat} {Q : State → Prop} {pc : Nat} {ls : Array Slot} {rest : List Value}
theorem nz_b {v : Int32} (h : v = 0 ∨ v = 1) : narrow .boolean (.int v) = .int v := by rcases h with rfl | rfl <;> decide
theorem nm_l {x v : Int64} (h : x = v) (k : W p l e R s m args below meth c H locs cells slots Q (F0 m pc ls (.long v :: rest))) : W p l e R s m args below meth c H locs cells slots Q (F0 m pc ls (.long x :: rest)) := h ▸ k
theorem nm_i {x v : Int32} (h : x = v) (k : W p l e R s m args below meth c H locs cells slots Q (F0 m pc ls (.int v :: rest))) : W p l e R s m args below meth c H locs cells slots Q (F0 m pc ls (.int x :: rest)) := h ▸ k
end
def f_K_mix (a0 : Int64) (a1 : Int64) : Option Int64 := Option.bind (some (((a0 ^^^ 5903417616886299669) * 6364136223846793005) + a1)) (fun v1 => Option.bind (some (v1 ^^^ ((Int64.toUInt64 v1 >>> ((Int32.toInt64 31).toUInt64 &&& Int64.toUInt64 63)).toInt64))) (fun v2 => Option.bind (some (v2 * 2685821657736338717)) (fun v3 => some (v3 ^^^ ((Int64.toUInt64 v3 >>> ((Int32.toInt64 28).toUInt64 &&& Int64.toUInt64 63)).toInt64)))))
abbrev rm_K_mix : Room := { frames := 0, cells := 0, slots := 0, locals := 0 }
set_option maxHeartbeats 4000000 in
set_option maxRecDepth 100000 in
theorem k_K_mix (l : Launch) (a0 : Int64) (a1 : Int64) (r : Int64) (hF : f_K_mix a0 a1 = some r) : Met l y_K_mix (Cond.code y_K_mix b_K_mix 6 (some .long) :: wa) rm_K_mix (pcs [.long a0, .long a1]) (vp_Sl (fun z => z = r)) 0 0 (fun _ => False) := by
  refine Met.ofW (cc := b_K_mix) (maxL := 6) (ret := (some .long)) (by decide) rfl ?_
  intro p e s m args below meth c s₁ B hml hv
  obtain ⟨rfl, hN⟩ := hv
  have hx := B.exec
  have hb := B.bytes
  have hr := B.returns
  have hts := atoms_spec (ws := Cond.code y_K_mix b_K_mix 6 (some .long) :: wa) B.pre
  have hw : ∀ w ∈ wa, w.before _ s = true := fun w h => hts w (List.mem_cons_of_mem _ h)
  have hown : s.vm.findClass R_K = some m.cls := findClass_of_methodNamed B.named
  have hlocks := B.notSynchronized
  have hl := lv_entry ([.long a0, .long a1]) (n := 6) (Nat.le_of_ble_eq_true rfl)
  rw [lg_entry_eq]
  generalize (lg_sl ([.long a0, .long a1]) ++ List.replicate (6 - (lg_sl ([.long a0, .long a1])).length) Slot.unset).toArray = ls at hl ⊢
  have hl : lv_has ls 6 [(0, .long a0), (2, .long a1)] := hl
  unfold f_K_mix at hF
  refine lv_lload_n hx hb d_K_mix_0 rfl (lv_at hl 0 rfl) ?_
  refine lv_ldc2 (v := 5903417616886299669) hx hb hown (hw _ ww_135) d_K_mix_1 ?_
  refine lv_lxor hx hb d_K_mix_4 ?_
  refine lv_ldc2 (v := 6364136223846793005) hx hb hown (hw _ ww_136) d_K_mix_5 ?_
  refine lv_lmul hx hb d_K_mix_8 ?_
  refine lv_lload_n hx hb d_K_mix_9 rfl (lv_at hl 1 rfl) ?_
  refine lv_ladd hx hb d_K_mix_10 ?_
  obtain ⟨v1, e_v1, hF⟩ := Option.bind_eq_some_iff.mp hF
  refine nm_l (Option.some.inj e_v1) ?_
  refine lv_lstore hx hb d_K_mix_11 hl (by decide) (lv' := [(4, .long v1), (0, .long a0), (2, .long a1)]) rfl (fun ls hl => ?_)
  refine lv_lload hx hb d_K_mix_13 (lv_at hl 0 rfl) ?_
  refine lv_lload hx hb d_K_mix_15 (lv_at hl 0 rfl) ?_
  refine lv_bipush (v := 31) hx hb d_K_mix_17 (by decide) ?_
  refine lv_lushr (v := (Int64.toUInt64 v1 >>> ((Int32.toInt64 31).toUInt64 &&& Int64.toUInt64 63)).toInt64) hx hb d_K_mix_19 rfl ?_
  refine lv_lxor hx hb d_K_mix_20 ?_
  obtain ⟨v2, e_v2, hF⟩ := Option.bind_eq_some_iff.mp hF
  refine nm_l (Option.some.inj e_v2) ?_
  refine lv_lstore hx hb d_K_mix_21 hl (by decide) (lv' := [(4, .long v2), (0, .long a0), (2, .long a1)]) rfl (fun ls hl => ?_)
  refine lv_lload hx hb d_K_mix_23 (lv_at hl 0 rfl) ?_
  refine lv_ldc2 (v := 2685821657736338717) hx hb hown (hw _ ww_137) d_K_mix_25 ?_
  refine lv_lmul hx hb d_K_mix_28 ?_
  obtain ⟨v3, e_v3, hF⟩ := Option.bind_eq_some_iff.mp hF
  refine nm_l (Option.some.inj e_v3) ?_
  refine lv_lstore hx hb d_K_mix_29 hl (by decide) (lv' := [(4, .long v3), (0, .long a0), (2, .long a1)]) rfl (fun ls hl => ?_)
  refine lv_lload hx hb d_K_mix_31 (lv_at hl 0 rfl) ?_
  refine lv_lload hx hb d_K_mix_33 (lv_at hl 0 rfl) ?_
  refine lv_bipush (v := 28) hx hb d_K_mix_35 (by decide) ?_
  refine lv_lushr (v := (Int64.toUInt64 v3 >>> ((Int32.toInt64 28).toUInt64 &&& Int64.toUInt64 63)).toInt64) hx hb d_K_mix_37 rfl ?_
  refine lv_lxor hx hb d_K_mix_38 ?_
  obtain rfl := Option.some.inj hF
  exact W.lret hx hb hr (fun t ht hW => ⟨_, rfl, rfl, ht⟩) (fun _ h => nomatch h) d_K_mix_39
def f_K_digest (a0 : Int64) : Option Int64 := Option.bind (f_K_mix a0 17) (fun r1 => some ((Int64.toUInt64 r1 >>> ((Int32.toInt64 34).toUInt64 &&& Int64.toUInt64 63)).toInt64))
abbrev rm_K_digest : Room := { frames := 1, cells := 0, slots := 0, locals := 25 }
set_option maxHeartbeats 4000000 in
set_option maxRecDepth 100000 in
theorem k_K_digest (l : Launch) (a0 : Int64) (r : Int64) (hF : f_K_digest a0 = some r) : Met l y_K_digest (Cond.code y_K_digest b_K_digest 2 (some .long) :: wa) rm_K_digest (pcs [.long a0]) (vp_Sl (fun z => z = r)) 0 0 (fun _ => False) := by
  refine Met.ofW (cc := b_K_digest) (maxL := 2) (ret := (some .long)) (by decide) rfl ?_
  intro p e s m args below meth c s₁ B hml hv
  obtain ⟨rfl, hN⟩ := hv
  have hx := B.exec
  have hb := B.bytes
  have hr := B.returns
  have hts := atoms_spec (ws := Cond.code y_K_digest b_K_digest 2 (some .long) :: wa) B.pre
  have hw : ∀ w ∈ wa, w.before _ s = true := fun w h => hts w (List.mem_cons_of_mem _ h)
  have hown : s.vm.findClass R_K = some m.cls := findClass_of_methodNamed B.named
  have hlocks := B.notSynchronized
  have hl := lv_entry ([.long a0]) (n := 2) (Nat.le_of_ble_eq_true rfl)
  rw [lg_entry_eq]
  generalize (lg_sl ([.long a0]) ++ List.replicate (2 - (lg_sl ([.long a0])).length) Slot.unset).toArray = ls at hl ⊢
  have hl : lv_has ls 2 [(0, .long a0)] := hl
  unfold f_K_digest at hF
  refine lv_lload_n hx hb d_K_digest_0 rfl (lv_at hl 0 rfl) ?_
  refine lv_ldc2 (v := 17) hx hb hown (hw _ ww_416) d_K_digest_1 ?_
  obtain ⟨r1, e_r1, hF⟩ := Option.bind_eq_some_iff.mp hF
  refine vp_callSl (va_runS (As := [.long a0, .long 17]) (rest := []) ⟨hx, hb, hml, hown, hts⟩ (k_K_mix l a0 17 r1 e_r1) (va_cwS 2 hts (ga_S ww_145 ww_133 ww_1 ww_134) rfl rfl rfl (by decide +kernel) ⟨by decide, by decide⟩) (pcs_pre hN) rfl rfl hl.1 rfl (lv_room (Nat.le_of_ble_eq_true rfl)) d_K_digest_4 ⟨Nat.zero_le _, Nat.zero_le _⟩).run (fun z9 hz9 => ?_)
  obtain rfl : r1 = z9 := hz9.symm
  refine lv_bipush (v := 34) hx hb d_K_digest_7 (by decide) ?_
  refine lv_lushr (v := (Int64.toUInt64 r1 >>> ((Int32.toInt64 34).toUInt64 &&& Int64.toUInt64 63)).toInt64) hx hb d_K_digest_9 rfl ?_
  obtain rfl := Option.some.inj hF
  exact W.lret hx hb hr (fun t ht hW => ⟨_, rfl, rfl, ht⟩) (fun _ h => nomatch h) d_K_digest_10
def f_K_challenge (a0 : Int64) (a1 : Int64) (a2 : Int64) : Option Int64 := Option.bind (f_K_mix ((a0 * 4294967296) + a1) 29) (fun r1 => Option.bind (f_K_mix r1 a2) (fun r2 => some (((Int64.toUInt64 r2 >>> ((Int32.toInt64 33).toUInt64 &&& Int64.toUInt64 63)).toInt64) - ((Int64.toUInt64 r2 >>> ((Int32.toInt64 33).toUInt64 &&& Int64.toUInt64 63)).toInt64) / 1073729077 * 1073729077)))
abbrev rm_K_challenge : Room := { frames := 1, cells := 0, slots := 0, locals := 25 }
set_option maxHeartbeats 4000000 in
set_option maxRecDepth 100000 in
theorem k_K_challenge (l : Launch) (a0 : Int64) (a1 : Int64) (a2 : Int64) (r : Int64) (hF : f_K_challenge a0 a1 a2 = some r) : Met l y_K_challenge (Cond.code y_K_challenge b_K_challenge 6 (some .long) :: wa) rm_K_challenge (pcs [.long a0, .long a1, .long a2]) (vp_Sl (fun z => z = r)) 0 0 (fun _ => False) := by
  refine Met.ofW (cc := b_K_challenge) (maxL := 6) (ret := (some .long)) (by decide) rfl ?_
  intro p e s m args below meth c s₁ B hml hv
  obtain ⟨rfl, hN⟩ := hv
  have hx := B.exec
  have hb := B.bytes
  have hr := B.returns
  have hts := atoms_spec (ws := Cond.code y_K_challenge b_K_challenge 6 (some .long) :: wa) B.pre
  have hw : ∀ w ∈ wa, w.before _ s = true := fun w h => hts w (List.mem_cons_of_mem _ h)
  have hown : s.vm.findClass R_K = some m.cls := findClass_of_methodNamed B.named
  have hlocks := B.notSynchronized
  have hl := lv_entry ([.long a0, .long a1, .long a2]) (n := 6) (Nat.le_of_ble_eq_true rfl)
  rw [lg_entry_eq]
  generalize (lg_sl ([.long a0, .long a1, .long a2]) ++ List.replicate (6 - (lg_sl ([.long a0, .long a1, .long a2])).length) Slot.unset).toArray = ls at hl ⊢
  have hl : lv_has ls 6 [(0, .long a0), (2, .long a1), (4, .long a2)] := hl
  unfold f_K_challenge at hF
  refine lv_lload_n hx hb d_K_challenge_0 rfl (lv_at hl 0 rfl) ?_
  refine lv_ldc2 (v := 4294967296) hx hb hown (hw _ ww_143) d_K_challenge_1 ?_
  refine lv_lmul hx hb d_K_challenge_4 ?_
  refine lv_lload_n hx hb d_K_challenge_5 rfl (lv_at hl 1 rfl) ?_
  refine lv_ladd hx hb d_K_challenge_6 ?_
  refine lv_ldc2 (v := 29) hx hb hown (hw _ ww_144) d_K_challenge_7 ?_
  obtain ⟨r1, e_r1, hF⟩ := Option.bind_eq_some_iff.mp hF
  refine vp_callSl (va_runS (As := [.long ((a0 * 4294967296) + a1), .long 29]) (rest := []) ⟨hx, hb, hml, hown, hts⟩ (k_K_mix l ((a0 * 4294967296) + a1) 29 r1 e_r1) (va_cwS 2 hts (ga_S ww_145 ww_133 ww_1 ww_134) rfl rfl rfl (by decide +kernel) ⟨by decide, by decide⟩) (pcs_pre hN) rfl rfl hl.1 rfl (lv_room (Nat.le_of_ble_eq_true rfl)) d_K_challenge_10 ⟨Nat.zero_le _, Nat.zero_le _⟩).run (fun z9 hz9 => ?_)
  obtain rfl : r1 = z9 := hz9.symm
  refine lv_lload hx hb d_K_challenge_13 (lv_at hl 2 rfl) ?_
  obtain ⟨r2, e_r2, hF⟩ := Option.bind_eq_some_iff.mp hF
  refine vp_callSl (va_runS (As := [.long r1, .long a2]) (rest := []) ⟨hx, hb, hml, hown, hts⟩ (k_K_mix l r1 a2 r2 e_r2) (va_cwS 2 hts (ga_S ww_145 ww_133 ww_1 ww_134) rfl rfl rfl (by decide +kernel) ⟨by decide, by decide⟩) (pcs_pre hN) rfl rfl hl.1 rfl (lv_room (Nat.le_of_ble_eq_true rfl)) d_K_challenge_15 ⟨Nat.zero_le _, Nat.zero_le _⟩).run (fun z9 hz9 => ?_)
  obtain rfl : r2 = z9 := hz9.symm
  refine lv_bipush (v := 33) hx hb d_K_challenge_18 (by decide) ?_
  refine lv_lushr (v := (Int64.toUInt64 r2 >>> ((Int32.toInt64 33).toUInt64 &&& Int64.toUInt64 63)).toInt64) hx hb d_K_challenge_20 rfl ?_
  refine lv_ldc2 (v := 1073729077) hx hb hown (hw _ ww_146) d_K_challenge_21 ?_
  refine lv_lrem hx hb d_K_challenge_24 (by decide) ?_
  obtain rfl := Option.some.inj hF
  exact W.lret hx hb hr (fun t ht hW => ⟨_, rfl, rfl, ht⟩) (fun _ h => nomatch h) d_K_challenge_25
def f_K_inverse_15 (a1 : Int64) : Nat → Int32 → Int64 → Int64 → Int64 → Int64 → Option (Int32 × Int64 × Int64 × Int64 × Int64)
  | 0, _, _, _, _, _ => none
  | n + 1, u1, u2, u3, u4, u5 => if 64 ≤ u1 then (some (u1, u2, u3, u4, u5)) else (if (lg_cmp u4 0) = 0 then (some (u1, u2, u3, u4, u5)) else (if u4 = 0 then none else (Option.bind (some (u5 / u4)) (fun v16 => Option.bind (some (u5 - (v16 * u4))) (fun v17 => Option.bind (some (u3 - (v16 * u2))) (fun v18 => Option.bind (some (u1 + 1)) (fun v19 => f_K_inverse_15 a1 n v19 v18 u2 v17 u4)))))))
def f_K_inverse (a0 : Int64) (a1 : Int64) : Option Int64 := Option.bind (f_K_inverse_15 a1 65 0 1 0 a0 a1) (fun t21 => match t21 with | (o7, o8, o9, o10, o11) => (Option.bind (if 0 ≤ (lg_cmp o9 0) then (some (o9) : Option (Int64)) else (some (o9 + a1))) (fun j22 => some (j22))))
abbrev rm_K_inverse : Room := { frames := 0, cells := 0, slots := 0, locals := 0 }
set_option maxHeartbeats 4000000 in
set_option maxRecDepth 100000 in
theorem k_K_inverse (l : Launch) (a0 : Int64) (a1 : Int64) (r : Int64) (hF : f_K_inverse a0 a1 = some r) : Met l y_K_inverse (Cond.code y_K_inverse b_K_inverse 19 (some .long) :: wa) rm_K_inverse (pcs [.long a0, .long a1]) (vp_Sl (fun z => z = r)) 0 0 (fun _ => False) := by
  refine Met.ofW (cc := b_K_inverse) (maxL := 19) (ret := (some .long)) (by decide) rfl ?_
  intro p e s m args below meth c s₁ B hml hv
  obtain ⟨rfl, hN⟩ := hv
  have hx := B.exec
  have hb := B.bytes
  have hr := B.returns
  have hts := atoms_spec (ws := Cond.code y_K_inverse b_K_inverse 19 (some .long) :: wa) B.pre
  have hw : ∀ w ∈ wa, w.before _ s = true := fun w h => hts w (List.mem_cons_of_mem _ h)
  have hown : s.vm.findClass R_K = some m.cls := findClass_of_methodNamed B.named
  have hlocks := B.notSynchronized
  have hl := lv_entry ([.long a0, .long a1]) (n := 19) (Nat.le_of_ble_eq_true rfl)
  rw [lg_entry_eq]
  generalize (lg_sl ([.long a0, .long a1]) ++ List.replicate (19 - (lg_sl ([.long a0, .long a1])).length) Slot.unset).toArray = ls at hl ⊢
  have hl : lv_has ls 19 [(0, .long a0), (2, .long a1)] := hl
  unfold f_K_inverse at hF
  refine lv_lload_n hx hb d_K_inverse_0 rfl (lv_at hl 1 rfl) ?_
  refine lv_lstore hx hb d_K_inverse_1 hl (by decide) (lv' := [(4, .long a1), (0, .long a0), (2, .long a1)]) rfl (fun ls hl => ?_)
  refine lv_lload_n hx hb d_K_inverse_3 rfl (lv_at hl 1 rfl) ?_
  refine lv_lstore hx hb d_K_inverse_4 hl (by decide) (lv' := [(6, .long a0), (4, .long a1), (0, .long a0), (2, .long a1)]) rfl (fun ls hl => ?_)
  refine lv_lconst (v := 0) hx hb d_K_inverse_6 (by decide) ?_
  refine lv_lstore hx hb d_K_inverse_7 hl (by decide) (lv' := [(8, .long 0), (6, .long a0), (4, .long a1), (0, .long a0), (2, .long a1)]) rfl (fun ls hl => ?_)
  refine lv_lconst (v := 1) hx hb d_K_inverse_9 (by decide) ?_
  refine lv_lstore hx hb d_K_inverse_10 hl (by decide) (lv' := [(10, .long 1), (8, .long 0), (6, .long a0), (4, .long a1), (0, .long a0), (2, .long a1)]) rfl (fun ls hl => ?_)
  refine lv_iconst (v := 0) hx hb d_K_inverse_12 (by decide) ?_
  refine lv_istore hx hb d_K_inverse_13 hl (by decide) (lv' := [(12, .int 0), (10, .long 1), (8, .long 0), (6, .long a0), (4, .long a1), (0, .long a0), (2, .long a1)]) rfl (fun ls hl => ?_)
  obtain ⟨⟨o7, o8, o9, o10, o11⟩, q20, hF⟩ := Option.bind_eq_some_iff.mp hF
  have k12 : ∀ (ls : Array Slot), lv_has ls 19 [(12, .int o7), (10, .long o8), (8, .long o9), (6, .long o10), (4, .long o11), (2, .long a1)] → W p l e rm_K_inverse s m ([Value.long a0, Value.long a1] : List Value).toArray below meth c s.heap [] 0 0 (MQ below (vp_Sl (fun z => z = r)) ([Value.long a0, Value.long a1] : List Value).toArray s 0 0 (fun _ => False)) (F0 m 78 ls []) := by
    intro ls hl
    refine lv_lload hx hb d_K_inverse_78 (lv_at hl 2 rfl) ?_
    refine lv_lconst (v := 0) hx hb d_K_inverse_80 (by decide) ?_
    refine W.lcmp hx hb d_K_inverse_81 ?_
    obtain ⟨j22, q24, hF⟩ := Option.bind_eq_some_iff.mp hF
    have k23 : ∀ (ls : Array Slot), lv_has ls 19 [] → W p l e rm_K_inverse s m ([Value.long a0, Value.long a1] : List Value).toArray below meth c s.heap [] 0 0 (MQ below (vp_Sl (fun z => z = r)) ([Value.long a0, Value.long a1] : List Value).toArray s 0 0 (fun _ => False)) (F0 m 94 ls [.long j22]) := by
      intro ls hl
      obtain rfl := Option.some.inj hF
      exact W.lret hx hb hr (fun t ht hW => ⟨_, rfl, rfl, ht⟩) (fun _ h => nomatch h) d_K_inverse_94
    clear hF
    have hF := q24
    refine lv_if_ge hx hb d_K_inverse_82 (tgt := 92) (by decide) (fun h9 => ?_) (fun h9 => ?_)
    · have hF := (if_pos h9).symm.trans hF
      refine lv_lload hx hb d_K_inverse_92 (lv_at hl 2 rfl) ?_
      obtain rfl := Option.some.inj hF
      exact k23 ls (lv_sub hl [] rfl)
    · have hF := (if_neg h9).symm.trans hF
      refine lv_lload hx hb d_K_inverse_85 (lv_at hl 2 rfl) ?_
      refine lv_lload_n hx hb d_K_inverse_87 rfl (lv_at hl 5 rfl) ?_
      refine lv_ladd hx hb d_K_inverse_88 ?_
      refine lv_goto hx hb d_K_inverse_89 (tgt := 94) (by decide) ?_
      obtain rfl := Option.some.inj hF
      exact k23 ls (lv_sub hl [] rfl)
  clear hF
  have k6 : ∀ (n : Nat) (u1 : Int32) (u2 : Int64) (u3 : Int64) (u4 : Int64) (u5 : Int64) (ls : Array Slot), lv_has ls 19 [(12, .int u1), (10, .long u2), (8, .long u3), (6, .long u4), (4, .long u5), (2, .long a1)] → f_K_inverse_15 a1 n u1 u2 u3 u4 u5 = some (o7, o8, o9, o10, o11) → W p l e rm_K_inverse s m ([Value.long a0, Value.long a1] : List Value).toArray below meth c s.heap [] 0 0 (MQ below (vp_Sl (fun z => z = r)) ([Value.long a0, Value.long a1] : List Value).toArray s 0 0 (fun _ => False)) (F0 m 15 ls []) := by
    intro n
    induction n with
    | zero => intro u1 u2 u3 u4 u5 ls hl hF; cases hF
    | succ n ih =>
      intro u1 u2 u3 u4 u5 ls hl hF
      rw [f_K_inverse_15] at hF
      refine lv_iload hx hb d_K_inverse_15 (lv_at hl 0 rfl) ?_
      refine lv_bipush (v := 64) hx hb d_K_inverse_17 (by decide) ?_
      refine lv_icmp_ge hx hb d_K_inverse_19 (tgt := 78) (by decide) (fun h9 => ?_) (fun h9 => ?_)
      · have hF := (if_pos h9).symm.trans hF
        cases Option.some.inj hF
        exact k12 ls (lv_sub hl [0, 1, 2, 3, 4, 5] rfl)
      · have hF := (if_neg h9).symm.trans hF
        refine lv_lload hx hb d_K_inverse_22 (lv_at hl 3 rfl) ?_
        refine lv_lconst (v := 0) hx hb d_K_inverse_24 (by decide) ?_
        refine W.lcmp hx hb d_K_inverse_25 ?_
        refine lv_if_eq hx hb d_K_inverse_26 (tgt := 78) (by decide) (fun h9 => ?_) (fun h9 => ?_)
        · have hF := (if_pos h9).symm.trans hF
          cases Option.some.inj hF
          exact k12 ls (lv_sub hl [0, 1, 2, 3, 4, 5] rfl)
        · have hF := (if_neg h9).symm.trans hF
          refine lv_lload hx hb d_K_inverse_29 (lv_at hl 4 rfl) ?_
          refine lv_lload hx hb d_K_inverse_31 (lv_at hl 3 rfl) ?_
          by_cases h15 : u4 = 0
          · have h0 := (if_pos h15).symm.trans hF; cases h0
          have hF := (if_neg h15).symm.trans hF
          refine lv_ldiv hx hb d_K_inverse_33 h15 ?_
          obtain ⟨v16, e_v16, hF⟩ := Option.bind_eq_some_iff.mp hF
          refine nm_l (Option.some.inj e_v16) ?_
          refine lv_lstore hx hb d_K_inverse_34 hl (by decide) (lv' := [(13, .long v16), (12, .int u1), (10, .long u2), (8, .long u3), (6, .long u4), (4, .long u5), (2, .long a1)]) rfl (fun ls hl => ?_)
          refine lv_lload hx hb d_K_inverse_36 (lv_at hl 5 rfl) ?_
          refine lv_lload hx hb d_K_inverse_38 (lv_at hl 0 rfl) ?_
          refine lv_lload hx hb d_K_inverse_40 (lv_at hl 4 rfl) ?_
          refine lv_lmul hx hb d_K_inverse_42 ?_
          refine lv_lsub hx hb d_K_inverse_43 ?_
          obtain ⟨v17, e_v17, hF⟩ := Option.bind_eq_some_iff.mp hF
          refine nm_l (Option.some.inj e_v17) ?_
          refine lv_lstore hx hb d_K_inverse_44 hl (by decide) (lv' := [(15, .long v17), (13, .long v16), (12, .int u1), (10, .long u2), (8, .long u3), (6, .long u4), (4, .long u5), (2, .long a1)]) rfl (fun ls hl => ?_)
          refine lv_lload hx hb d_K_inverse_46 (lv_at hl 4 rfl) ?_
          refine lv_lload hx hb d_K_inverse_48 (lv_at hl 1 rfl) ?_
          refine lv_lload hx hb d_K_inverse_50 (lv_at hl 3 rfl) ?_
          refine lv_lmul hx hb d_K_inverse_52 ?_
          refine lv_lsub hx hb d_K_inverse_53 ?_
          obtain ⟨v18, e_v18, hF⟩ := Option.bind_eq_some_iff.mp hF
          refine nm_l (Option.some.inj e_v18) ?_
          refine lv_lstore hx hb d_K_inverse_54 hl (by decide) (lv' := [(17, .long v18), (15, .long v17), (13, .long v16), (12, .int u1), (10, .long u2), (8, .long u3), (6, .long u4), (4, .long u5), (2, .long a1)]) rfl (fun ls hl => ?_)
          refine lv_lload hx hb d_K_inverse_56 (lv_at hl 6 rfl) ?_
          refine lv_lstore hx hb d_K_inverse_58 hl (by decide) (lv' := [(4, .long u4), (17, .long v18), (15, .long v17), (13, .long v16), (12, .int u1), (10, .long u2), (8, .long u3), (6, .long u4), (2, .long a1)]) rfl (fun ls hl => ?_)
          refine lv_lload hx hb d_K_inverse_60 (lv_at hl 2 rfl) ?_
          refine lv_lstore hx hb d_K_inverse_62 hl (by decide) (lv' := [(6, .long v17), (4, .long u4), (17, .long v18), (15, .long v17), (13, .long v16), (12, .int u1), (10, .long u2), (8, .long u3), (2, .long a1)]) rfl (fun ls hl => ?_)
          refine lv_lload hx hb d_K_inverse_64 (lv_at hl 6 rfl) ?_
          refine lv_lstore hx hb d_K_inverse_66 hl (by decide) (lv' := [(8, .long u2), (6, .long v17), (4, .long u4), (17, .long v18), (15, .long v17), (13, .long v16), (12, .int u1), (10, .long u2), (2, .long a1)]) rfl (fun ls hl => ?_)
          refine lv_lload hx hb d_K_inverse_68 (lv_at hl 3 rfl) ?_
          refine lv_lstore hx hb d_K_inverse_70 hl (by decide) (lv' := [(10, .long v18), (8, .long u2), (6, .long v17), (4, .long u4), (17, .long v18), (15, .long v17), (13, .long v16), (12, .int u1), (2, .long a1)]) rfl (fun ls hl => ?_)
          obtain ⟨v19, e_v19, hF⟩ := Option.bind_eq_some_iff.mp hF
          refine lv_iinc hx hb d_K_inverse_72 hl (k := 7) (v := v19) rfl ((show _ = u1 + 1 from rfl).trans (Option.some.inj e_v19)) (by decide) (lv' := [(12, .int v19), (10, .long v18), (8, .long u2), (6, .long v17), (4, .long u4), (17, .long v18), (15, .long v17), (13, .long v16), (2, .long a1)]) rfl (fun ls hl => ?_)
          refine lv_goto hx hb d_K_inverse_75 (tgt := 15) (by decide) ?_
          exact ih v19 v18 u2 v17 u4 ls (lv_sub hl [0, 1, 2, 3, 4, 8] rfl) hF
  exact k6 65 0 1 0 a0 a1 ls (lv_sub hl [0, 1, 2, 3, 4, 6] rfl) q20
def f_K_movedSecret (a0 : Int64) (a1 : Int64) (a2 : Int32) : Option Int64 := if (lg_cmp a0 0) = 0 then (some (0)) else (Option.bind (if a2 = 0 then (some (a0 + a1) : Option (Int64)) else (some (a0 * a1))) (fun j1 => some (j1 - j1 / 1073729077 * 1073729077)))
abbrev rm_K_movedSecret : Room := { frames := 0, cells := 0, slots := 0, locals := 0 }
set_option maxHeartbeats 4000000 in
set_option maxRecDepth 100000 in
theorem k_K_movedSecret (l : Launch) (a0 : Int64) (a1 : Int64) (a2 : Int32) (r : Int64) (hF : f_K_movedSecret a0 a1 a2 = some r) : Met l y_K_movedSecret (Cond.code y_K_movedSecret b_K_movedSecret 5 (some .long) :: wa) rm_K_movedSecret (pcs [.long a0, .long a1, .int a2]) (vp_Sl (fun z => z = r)) 0 0 (fun _ => False) := by
  refine Met.ofW (cc := b_K_movedSecret) (maxL := 5) (ret := (some .long)) (by decide) rfl ?_
  intro p e s m args below meth c s₁ B hml hv
  obtain ⟨rfl, hN⟩ := hv
  have hx := B.exec
  have hb := B.bytes
  have hr := B.returns
  have hts := atoms_spec (ws := Cond.code y_K_movedSecret b_K_movedSecret 5 (some .long) :: wa) B.pre
  have hw : ∀ w ∈ wa, w.before _ s = true := fun w h => hts w (List.mem_cons_of_mem _ h)
  have hown : s.vm.findClass R_K = some m.cls := findClass_of_methodNamed B.named
  have hlocks := B.notSynchronized
  have hl := lv_entry ([.long a0, .long a1, .int a2]) (n := 5) (Nat.le_of_ble_eq_true rfl)
  rw [lg_entry_eq]
  generalize (lg_sl ([.long a0, .long a1, .int a2]) ++ List.replicate (5 - (lg_sl ([.long a0, .long a1, .int a2])).length) Slot.unset).toArray = ls at hl ⊢
  have hl : lv_has ls 5 [(0, .long a0), (2, .long a1), (4, .int a2)] := hl
  unfold f_K_movedSecret at hF
  refine lv_lload_n hx hb d_K_movedSecret_0 rfl (lv_at hl 0 rfl) ?_
  refine lv_lconst (v := 0) hx hb d_K_movedSecret_1 (by decide) ?_
  refine W.lcmp hx hb d_K_movedSecret_2 ?_
  refine lv_if_ne hx hb d_K_movedSecret_3 (tgt := 8) (by decide) (fun h9 => ?_) (fun h9 => ?_)
  · have hF := (if_neg h9).symm.trans hF
    refine lv_iload hx hb d_K_movedSecret_8 (lv_at hl 2 rfl) ?_
    obtain ⟨j1, q3, hF⟩ := Option.bind_eq_some_iff.mp hF
    have k2 : ∀ (ls : Array Slot), lv_has ls 5 [] → W p l e rm_K_movedSecret s m ([Value.long a0, Value.long a1, Value.int a2] : List Value).toArray below meth c s.heap [] 0 0 (MQ below (vp_Sl (fun z => z = r)) ([Value.long a0, Value.long a1, Value.int a2] : List Value).toArray s 0 0 (fun _ => False)) (F0 m 22 ls [.long j1]) := by
      intro ls hl
      refine lv_ldc2 (v := 1073729077) hx hb hown (hw _ ww_146) d_K_movedSecret_22 ?_
      refine lv_lrem hx hb d_K_movedSecret_25 (by decide) ?_
      obtain rfl := Option.some.inj hF
      exact W.lret hx hb hr (fun t ht hW => ⟨_, rfl, rfl, ht⟩) (fun _ h => nomatch h) d_K_movedSecret_26
    clear hF
    have hF := q3
    refine lv_if_eq hx hb d_K_movedSecret_10 (tgt := 19) (by decide) (fun h9 => ?_) (fun h9 => ?_)
    · have hF := (if_pos h9).symm.trans hF
      refine lv_lload_n hx hb d_K_movedSecret_19 rfl (lv_at hl 0 rfl) ?_
      refine lv_lload_n hx hb d_K_movedSecret_20 rfl (lv_at hl 1 rfl) ?_
      refine lv_ladd hx hb d_K_movedSecret_21 ?_
      obtain rfl := Option.some.inj hF
      exact k2 ls (lv_sub hl [] rfl)
    · have hF := (if_neg h9).symm.trans hF
      refine lv_lload_n hx hb d_K_movedSecret_13 rfl (lv_at hl 0 rfl) ?_
      refine lv_lload_n hx hb d_K_movedSecret_14 rfl (lv_at hl 1 rfl) ?_
      refine lv_lmul hx hb d_K_movedSecret_15 ?_
      refine lv_goto hx hb d_K_movedSecret_16 (tgt := 22) (by decide) ?_
      obtain rfl := Option.some.inj hF
      exact k2 ls (lv_sub hl [] rfl)
  · have hF := (if_pos h9).symm.trans hF
    refine lv_lconst (v := 0) hx hb d_K_movedSecret_6 (by decide) ?_
    obtain rfl := Option.some.inj hF
    exact W.lret hx hb hr (fun t ht hW => ⟨_, rfl, rfl, ht⟩) (fun _ h => nomatch h) d_K_movedSecret_7
def f_F_has (a0 : Int64) : Option Int32 := Option.bind (if (lg_cmp a0 0) < 0 then (some (0) : Option (Int32)) else (if 0 ≤ (lg_cmp a0 1073735023) then (some (0)) else (some (1)))) (fun j1 => some (j1))
abbrev rm_F_has : Room := { frames := 0, cells := 0, slots := 0, locals := 0 }
set_option maxHeartbeats 4000000 in
set_option maxRecDepth 100000 in
theorem k_F_has (l : Launch) (a0 : Int64) (r : Int32) (hF : f_F_has a0 = some r) : Met l y_F_has (Cond.code y_F_has b_F_has 2 (some .boolean) :: wa) rm_F_has (pcs [.long a0]) (vp_Si (fun z => z = r)) 0 0 (fun _ => False) := by
  refine Met.ofW (cc := b_F_has) (maxL := 2) (ret := (some .boolean)) (by decide) rfl ?_
  intro p e s m args below meth c s₁ B hml hv
  obtain ⟨rfl, hN⟩ := hv
  have hx := B.exec
  have hb := B.bytes
  have hr := B.returns
  have hts := atoms_spec (ws := Cond.code y_F_has b_F_has 2 (some .boolean) :: wa) B.pre
  have hw : ∀ w ∈ wa, w.before _ s = true := fun w h => hts w (List.mem_cons_of_mem _ h)
  have hown : s.vm.findClass R_F = some m.cls := findClass_of_methodNamed B.named
  have hlocks := B.notSynchronized
  have hl := lv_entry ([.long a0]) (n := 2) (Nat.le_of_ble_eq_true rfl)
  rw [lg_entry_eq]
  generalize (lg_sl ([.long a0]) ++ List.replicate (2 - (lg_sl ([.long a0])).length) Slot.unset).toArray = ls at hl ⊢
  have hl : lv_has ls 2 [(0, .long a0)] := hl
  unfold f_F_has at hF
  refine lv_lload_n hx hb d_F_has_0 rfl (lv_at hl 0 rfl) ?_
  refine lv_lconst (v := 0) hx hb d_F_has_1 (by decide) ?_
  refine W.lcmp hx hb d_F_has_2 ?_
  obtain ⟨j1, q3, hF⟩ := Option.bind_eq_some_iff.mp hF
  have z_j1 : j1 = 0 ∨ j1 = 1 := by
    have h := q3
    (repeat' (split at h)) <;> (obtain rfl := Option.some.inj h; first | exact Or.inl rfl | exact Or.inr rfl)
  have k2 : ∀ (ls : Array Slot), lv_has ls 2 [] → W p l e rm_F_has s m ([Value.long a0] : List Value).toArray below meth c s.heap [] 0 0 (MQ below (vp_Si (fun z => z = r)) ([Value.long a0] : List Value).toArray s 0 0 (fun _ => False)) (F0 m 19 ls [.int j1]) := by
    intro ls hl
    obtain rfl := Option.some.inj hF
    exact W.zret hx hb hr (nz_b z_j1) (fun t ht hW => ⟨_, rfl, rfl, ht⟩) (fun _ h => nomatch h) d_F_has_19
  clear hF
  have hF := q3
  refine lv_if_lt hx hb d_F_has_3 (tgt := 18) (by decide) (fun h9 => ?_) (fun h9 => ?_)
  · have hF := (if_pos h9).symm.trans hF
    refine lv_iconst (v := 0) hx hb d_F_has_18 (by decide) ?_
    obtain rfl := Option.some.inj hF
    exact k2 ls (lv_sub hl [] rfl)
  · have hF := (if_neg h9).symm.trans hF
    refine lv_lload_n hx hb d_F_has_6 rfl (lv_at hl 0 rfl) ?_
    refine lv_ldc2 (v := 1073735023) hx hb hown (hw _ ww_88) d_F_has_7 ?_
    refine W.lcmp hx hb d_F_has_10 ?_
    refine lv_if_ge hx hb d_F_has_11 (tgt := 18) (by decide) (fun h9 => ?_) (fun h9 => ?_)
    · have hF := (if_pos h9).symm.trans hF
      refine lv_iconst (v := 0) hx hb d_F_has_18 (by decide) ?_
      obtain rfl := Option.some.inj hF
      exact k2 ls (lv_sub hl [] rfl)
    · have hF := (if_neg h9).symm.trans hF
      refine lv_iconst (v := 1) hx hb d_F_has_14 (by decide) ?_
      refine lv_goto hx hb d_F_has_15 (tgt := 19) (by decide) ?_
      obtain rfl := Option.some.inj hF
      exact k2 ls (lv_sub hl [] rfl)
def f_F_reduced (a0 : Int64) : Option Int64 := Option.bind (some (a0 - a0 / 1073735023 * 1073735023)) (fun v1 => Option.bind (if 0 ≤ (lg_cmp v1 0) then (some (v1) : Option (Int64)) else (some (v1 + 1073735023))) (fun j2 => some (j2)))
abbrev rm_F_reduced : Room := { frames := 0, cells := 0, slots := 0, locals := 0 }
set_option maxHeartbeats 4000000 in
set_option maxRecDepth 100000 in
theorem k_F_reduced (l : Launch) (a0 : Int64) (r : Int64) (hF : f_F_reduced a0 = some r) : Met l y_F_reduced (Cond.code y_F_reduced b_F_reduced 4 (some .long) :: wa) rm_F_reduced (pcs [.long a0]) (vp_Sl (fun z => z = r)) 0 0 (fun _ => False) := by
  refine Met.ofW (cc := b_F_reduced) (maxL := 4) (ret := (some .long)) (by decide) rfl ?_
  intro p e s m args below meth c s₁ B hml hv
  obtain ⟨rfl, hN⟩ := hv
  have hx := B.exec
  have hb := B.bytes
  have hr := B.returns
  have hts := atoms_spec (ws := Cond.code y_F_reduced b_F_reduced 4 (some .long) :: wa) B.pre
  have hw : ∀ w ∈ wa, w.before _ s = true := fun w h => hts w (List.mem_cons_of_mem _ h)
  have hown : s.vm.findClass R_F = some m.cls := findClass_of_methodNamed B.named
  have hlocks := B.notSynchronized
  have hl := lv_entry ([.long a0]) (n := 4) (Nat.le_of_ble_eq_true rfl)
  rw [lg_entry_eq]
  generalize (lg_sl ([.long a0]) ++ List.replicate (4 - (lg_sl ([.long a0])).length) Slot.unset).toArray = ls at hl ⊢
  have hl : lv_has ls 4 [(0, .long a0)] := hl
  unfold f_F_reduced at hF
  refine lv_lload_n hx hb d_F_reduced_0 rfl (lv_at hl 0 rfl) ?_
  refine lv_ldc2 (v := 1073735023) hx hb hown (hw _ ww_88) d_F_reduced_1 ?_
  refine lv_lrem hx hb d_F_reduced_4 (by decide) ?_
  obtain ⟨v1, e_v1, hF⟩ := Option.bind_eq_some_iff.mp hF
  refine nm_l (Option.some.inj e_v1) ?_
  refine lv_lstore_n hx hb d_F_reduced_5 rfl hl (by decide) (lv' := [(2, .long v1), (0, .long a0)]) rfl (fun ls hl => ?_)
  refine lv_lload_n hx hb d_F_reduced_6 rfl (lv_at hl 0 rfl) ?_
  refine lv_lconst (v := 0) hx hb d_F_reduced_7 (by decide) ?_
  refine W.lcmp hx hb d_F_reduced_8 ?_
  obtain ⟨j2, q4, hF⟩ := Option.bind_eq_some_iff.mp hF
  have k3 : ∀ (ls : Array Slot), lv_has ls 4 [] → W p l e rm_F_reduced s m ([Value.long a0] : List Value).toArray below meth c s.heap [] 0 0 (MQ below (vp_Sl (fun z => z = r)) ([Value.long a0] : List Value).toArray s 0 0 (fun _ => False)) (F0 m 21 ls [.long j2]) := by
    intro ls hl
    obtain rfl := Option.some.inj hF
    exact W.lret hx hb hr (fun t ht hW => ⟨_, rfl, rfl, ht⟩) (fun _ h => nomatch h) d_F_reduced_21
  clear hF
  have hF := q4
  refine lv_if_ge hx hb d_F_reduced_9 (tgt := 20) (by decide) (fun h9 => ?_) (fun h9 => ?_)
  · have hF := (if_pos h9).symm.trans hF
    refine lv_lload_n hx hb d_F_reduced_20 rfl (lv_at hl 0 rfl) ?_
    obtain rfl := Option.some.inj hF
    exact k3 ls (lv_sub hl [] rfl)
  · have hF := (if_neg h9).symm.trans hF
    refine lv_lload_n hx hb d_F_reduced_12 rfl (lv_at hl 0 rfl) ?_
    refine lv_ldc2 (v := 1073735023) hx hb hown (hw _ ww_88) d_F_reduced_13 ?_
    refine lv_ladd hx hb d_F_reduced_16 ?_
    refine lv_goto hx hb d_F_reduced_17 (tgt := 21) (by decide) ?_
    obtain rfl := Option.some.inj hF
    exact k3 ls (lv_sub hl [] rfl)
def f_F_quotient (a0 : Int64) (a1 : Int64) : Option Int64 := Option.bind (f_F_reduced a0) (fun r1 => Option.bind (f_F_reduced a1) (fun r2 => Option.bind (f_K_inverse r2 1073735023) (fun r3 => some ((r1 * r3) - (r1 * r3) / 1073735023 * 1073735023))))
abbrev rm_F_quotient : Room := { frames := 1, cells := 0, slots := 0, locals := 38 }
set_option maxHeartbeats 4000000 in
set_option maxRecDepth 100000 in
theorem k_F_quotient (l : Launch) (a0 : Int64) (a1 : Int64) (r : Int64) (hF : f_F_quotient a0 a1 = some r) : Met l y_F_quotient (Cond.code y_F_quotient b_F_quotient 4 (some .long) :: wa) rm_F_quotient (pcs [.long a0, .long a1]) (vp_Sl (fun z => z = r)) 0 0 (fun _ => False) := by
  refine Met.ofW (cc := b_F_quotient) (maxL := 4) (ret := (some .long)) (by decide) rfl ?_
  intro p e s m args below meth c s₁ B hml hv
  obtain ⟨rfl, hN⟩ := hv
  have hx := B.exec
  have hb := B.bytes
  have hr := B.returns
  have hts := atoms_spec (ws := Cond.code y_F_quotient b_F_quotient 4 (some .long) :: wa) B.pre
  have hw : ∀ w ∈ wa, w.before _ s = true := fun w h => hts w (List.mem_cons_of_mem _ h)
  have hown : s.vm.findClass R_F = some m.cls := findClass_of_methodNamed B.named
  have hlocks := B.notSynchronized
  have hl := lv_entry ([.long a0, .long a1]) (n := 4) (Nat.le_of_ble_eq_true rfl)
  rw [lg_entry_eq]
  generalize (lg_sl ([.long a0, .long a1]) ++ List.replicate (4 - (lg_sl ([.long a0, .long a1])).length) Slot.unset).toArray = ls at hl ⊢
  have hl : lv_has ls 4 [(0, .long a0), (2, .long a1)] := hl
  unfold f_F_quotient at hF
  refine lv_lload_n hx hb d_F_quotient_0 rfl (lv_at hl 0 rfl) ?_
  obtain ⟨r1, e_r1, hF⟩ := Option.bind_eq_some_iff.mp hF
  refine vp_callSl (va_runS (As := [.long a0]) (rest := []) ⟨hx, hb, hml, hown, hts⟩ (k_F_reduced l a0 r1 e_r1) (va_cwS 1 hts (ga_S ww_161 ww_162 ww_12 ww_163) rfl rfl rfl (by decide +kernel) ⟨by decide, by decide⟩) (pcs_pre hN) rfl rfl hl.1 rfl (lv_room (Nat.le_of_ble_eq_true rfl)) d_F_quotient_1 ⟨Nat.zero_le _, Nat.zero_le _⟩).run (fun z9 hz9 => ?_)
  obtain rfl : r1 = z9 := hz9.symm
  refine lv_lload_n hx hb d_F_quotient_4 rfl (lv_at hl 1 rfl) ?_
  obtain ⟨r2, e_r2, hF⟩ := Option.bind_eq_some_iff.mp hF
  refine vp_callSl (va_runS (As := [.long a1]) (rest := [.long r1]) ⟨hx, hb, hml, hown, hts⟩ (k_F_reduced l a1 r2 e_r2) (va_cwS 1 hts (ga_S ww_161 ww_162 ww_12 ww_163) rfl rfl rfl (by decide +kernel) ⟨by decide, by decide⟩) (pcs_pre hN) rfl rfl hl.1 rfl (lv_room (Nat.le_of_ble_eq_true rfl)) d_F_quotient_5 ⟨Nat.zero_le _, Nat.zero_le _⟩).run (fun z9 hz9 => ?_)
  obtain rfl : r2 = z9 := hz9.symm
  refine lv_ldc2 (v := 1073735023) hx hb hown (hw _ ww_88) d_F_quotient_8 ?_
  obtain ⟨r3, e_r3, hF⟩ := Option.bind_eq_some_iff.mp hF
  refine vp_callSl (va_runSN (As := [.long r2, .long 1073735023]) (rest := [.long r1]) ⟨hx, hb, hml, hown, hts⟩ (k_K_inverse l r2 1073735023 r3 e_r3) ⟨va_cnB 2 hts (ga_N ww_166) rfl rfl rfl (hN _ nl_4) (hw _ ww_1) (by decide +kernel) ⟨by decide, by decide⟩, hw _ ww_165, trivial⟩ (pcs_pre hN) rfl rfl hl.1 rfl (lv_room (Nat.le_of_ble_eq_true rfl)) d_F_quotient_11 ⟨Nat.zero_le _, Nat.zero_le _⟩).run (fun z9 hz9 => ?_)
  obtain rfl : r3 = z9 := hz9.symm
  refine lv_lmul hx hb d_F_quotient_14 ?_
  refine lv_ldc2 (v := 1073735023) hx hb hown (hw _ ww_88) d_F_quotient_15 ?_
  refine lv_lrem hx hb d_F_quotient_18 (by decide) ?_
  obtain rfl := Option.some.inj hF
  exact W.lret hx hb hr (fun t ht hW => ⟨_, rfl, rfl, ht⟩) (fun _ h => nomatch h) d_F_quotient_19
def f_F_rootIfAny_11 (a0 : Int64) : Nat → Int32 → Int64 → Option (Int32 × Int64)
  | 0, _, _ => none
  | n + 1, u1, u2 => if u1 < 0 then (some (u1, u2)) else (Option.bind (some ((u2 * u2) - (u2 * u2) / 1073735023 * 1073735023)) (fun v9 => Option.bind (if (lg_cmp (((Int64.toUInt64 268433756 >>> ((Int32.toInt64 u1).toUInt64 &&& Int64.toUInt64 63)).toInt64) &&& 1) 1) = 0 then (Option.bind (some ((v9 * a0) - (v9 * a0) / 1073735023 * 1073735023)) (fun v15 => some (v15)) : Option (Int64)) else (some (v9))) (fun j10 => Option.bind (some (u1 + (-1))) (fun v14 => f_F_rootIfAny_11 a0 n v14 j10))))
def f_F_rootIfAny (a0 : Int64) : Option Int64 := Option.bind (f_F_rootIfAny_11 a0 64 29 1) (fun t17 => match t17 with | (o4, o5) => (some (o5)))
abbrev rm_F_rootIfAny : Room := { frames := 0, cells := 0, slots := 0, locals := 0 }
set_option maxHeartbeats 4000000 in
set_option maxRecDepth 100000 in
theorem k_F_rootIfAny (l : Launch) (a0 : Int64) (r : Int64) (hF : f_F_rootIfAny a0 = some r) : Met l y_F_rootIfAny (Cond.code y_F_rootIfAny b_F_rootIfAny 7 (some .long) :: wa) rm_F_rootIfAny (pcs [.long a0]) (vp_Sl (fun z => z = r)) 0 0 (fun _ => False) := by
  refine Met.ofW (cc := b_F_rootIfAny) (maxL := 7) (ret := (some .long)) (by decide) rfl ?_
  intro p e s m args below meth c s₁ B hml hv
  obtain ⟨rfl, hN⟩ := hv
  have hx := B.exec
  have hb := B.bytes
  have hr := B.returns
  have hts := atoms_spec (ws := Cond.code y_F_rootIfAny b_F_rootIfAny 7 (some .long) :: wa) B.pre
  have hw : ∀ w ∈ wa, w.before _ s = true := fun w h => hts w (List.mem_cons_of_mem _ h)
  have hown : s.vm.findClass R_F = some m.cls := findClass_of_methodNamed B.named
  have hlocks := B.notSynchronized
  have hl := lv_entry ([.long a0]) (n := 7) (Nat.le_of_ble_eq_true rfl)
  rw [lg_entry_eq]
  generalize (lg_sl ([.long a0]) ++ List.replicate (7 - (lg_sl ([.long a0])).length) Slot.unset).toArray = ls at hl ⊢
  have hl : lv_has ls 7 [(0, .long a0)] := hl
  unfold f_F_rootIfAny at hF
  refine lv_ldc2 (v := 268433756) hx hb hown (hw _ ww_94) d_F_rootIfAny_0 ?_
  refine lv_lstore_n hx hb d_F_rootIfAny_3 rfl hl (by decide) (lv' := [(2, .long 268433756), (0, .long a0)]) rfl (fun ls hl => ?_)
  refine lv_lconst (v := 1) hx hb d_F_rootIfAny_4 (by decide) ?_
  refine lv_lstore hx hb d_F_rootIfAny_5 hl (by decide) (lv' := [(4, .long 1), (2, .long 268433756), (0, .long a0)]) rfl (fun ls hl => ?_)
  refine lv_bipush (v := 29) hx hb d_F_rootIfAny_7 (by decide) ?_
  refine lv_istore hx hb d_F_rootIfAny_9 hl (by decide) (lv' := [(6, .int 29), (4, .long 1), (2, .long 268433756), (0, .long a0)]) rfl (fun ls hl => ?_)
  obtain ⟨⟨o4, o5⟩, q16, hF⟩ := Option.bind_eq_some_iff.mp hF
  have k6 : ∀ (ls : Array Slot), lv_has ls 7 [(6, .int o4), (4, .long o5), (2, .long 268433756), (0, .long a0)] → W p l e rm_F_rootIfAny s m ([Value.long a0] : List Value).toArray below meth c s.heap [] 0 0 (MQ below (vp_Sl (fun z => z = r)) ([Value.long a0] : List Value).toArray s 0 0 (fun _ => False)) (F0 m 54 ls []) := by
    intro ls hl
    refine lv_lload hx hb d_F_rootIfAny_54 (lv_at hl 1 rfl) ?_
    obtain rfl := Option.some.inj hF
    exact W.lret hx hb hr (fun t ht hW => ⟨_, rfl, rfl, ht⟩) (fun _ h => nomatch h) d_F_rootIfAny_56
  clear hF
  have k3 : ∀ (n : Nat) (u1 : Int32) (u2 : Int64) (ls : Array Slot), lv_has ls 7 [(6, .int u1), (4, .long u2), (2, .long 268433756), (0, .long a0)] → f_F_rootIfAny_11 a0 n u1 u2 = some (o4, o5) → W p l e rm_F_rootIfAny s m ([Value.long a0] : List Value).toArray below meth c s.heap [] 0 0 (MQ below (vp_Sl (fun z => z = r)) ([Value.long a0] : List Value).toArray s 0 0 (fun _ => False)) (F0 m 11 ls []) := by
    intro n
    induction n with
    | zero => intro u1 u2 ls hl hF; cases hF
    | succ n ih =>
      intro u1 u2 ls hl hF
      rw [f_F_rootIfAny_11] at hF
      refine lv_iload hx hb d_F_rootIfAny_11 (lv_at hl 0 rfl) ?_
      refine lv_if_lt hx hb d_F_rootIfAny_13 (tgt := 54) (by decide) (fun h9 => ?_) (fun h9 => ?_)
      · have hF := (if_pos h9).symm.trans hF
        cases Option.some.inj hF
        exact k6 ls (lv_sub hl [0, 1, 2, 3] rfl)
      · have hF := (if_neg h9).symm.trans hF
        refine lv_lload hx hb d_F_rootIfAny_16 (lv_at hl 1 rfl) ?_
        refine lv_lload hx hb d_F_rootIfAny_18 (lv_at hl 1 rfl) ?_
        refine lv_lmul hx hb d_F_rootIfAny_20 ?_
        refine lv_ldc2 (v := 1073735023) hx hb hown (hw _ ww_88) d_F_rootIfAny_21 ?_
        refine lv_lrem hx hb d_F_rootIfAny_24 (by decide) ?_
        obtain ⟨v9, e_v9, hF⟩ := Option.bind_eq_some_iff.mp hF
        refine nm_l (Option.some.inj e_v9) ?_
        refine lv_lstore hx hb d_F_rootIfAny_25 hl (by decide) (lv' := [(4, .long v9), (6, .int u1), (2, .long 268433756), (0, .long a0)]) rfl (fun ls hl => ?_)
        refine lv_lload_n hx hb d_F_rootIfAny_27 rfl (lv_at hl 2 rfl) ?_
        refine lv_iload hx hb d_F_rootIfAny_28 (lv_at hl 1 rfl) ?_
        refine lv_lushr (v := (Int64.toUInt64 268433756 >>> ((Int32.toInt64 u1).toUInt64 &&& Int64.toUInt64 63)).toInt64) hx hb d_F_rootIfAny_30 rfl ?_
        refine lv_lconst (v := 1) hx hb d_F_rootIfAny_31 (by decide) ?_
        refine lv_land hx hb d_F_rootIfAny_32 ?_
        refine lv_lconst (v := 1) hx hb d_F_rootIfAny_33 (by decide) ?_
        refine W.lcmp hx hb d_F_rootIfAny_34 ?_
        obtain ⟨j10, q12, hF⟩ := Option.bind_eq_some_iff.mp hF
        have k11 : ∀ (ls : Array Slot), lv_has ls 7 [(4, .long j10), (6, .int u1), (2, .long 268433756), (0, .long a0)] → W p l e rm_F_rootIfAny s m ([Value.long a0] : List Value).toArray below meth c s.heap [] 0 0 (MQ below (vp_Sl (fun z => z = r)) ([Value.long a0] : List Value).toArray s 0 0 (fun _ => False)) (F0 m 48 ls []) := by
          intro ls hl
          obtain ⟨v14, e_v14, hF⟩ := Option.bind_eq_some_iff.mp hF
          refine lv_iinc hx hb d_F_rootIfAny_48 hl (k := 1) (v := v14) rfl ((show _ = u1 + (-1) from rfl).trans (Option.some.inj e_v14)) (by decide) (lv' := [(6, .int v14), (4, .long j10), (2, .long 268433756), (0, .long a0)]) rfl (fun ls hl => ?_)
          refine lv_goto hx hb d_F_rootIfAny_51 (tgt := 11) (by decide) ?_
          exact ih v14 j10 ls (lv_sub hl [0, 1, 2, 3] rfl) hF
        clear hF
        have hF := q12
        refine lv_if_ne hx hb d_F_rootIfAny_35 (tgt := 48) (by decide) (fun h9 => ?_) (fun h9 => ?_)
        · have hF := (if_neg h9).symm.trans hF
          obtain rfl := Option.some.inj hF
          exact k11 ls (lv_sub hl [0, 1, 2, 3] rfl)
        · have hF := (if_pos h9).symm.trans hF
          refine lv_lload hx hb d_F_rootIfAny_38 (lv_at hl 0 rfl) ?_
          refine lv_lload_n hx hb d_F_rootIfAny_40 rfl (lv_at hl 3 rfl) ?_
          refine lv_lmul hx hb d_F_rootIfAny_41 ?_
          refine lv_ldc2 (v := 1073735023) hx hb hown (hw _ ww_88) d_F_rootIfAny_42 ?_
          refine lv_lrem hx hb d_F_rootIfAny_45 (by decide) ?_
          obtain ⟨v15, e_v15, hF⟩ := Option.bind_eq_some_iff.mp hF
          refine nm_l (Option.some.inj e_v15) ?_
          refine lv_lstore hx hb d_F_rootIfAny_46 hl (by decide) (lv' := [(4, .long v15), (6, .int u1), (2, .long 268433756), (0, .long a0)]) rfl (fun ls hl => ?_)
          obtain rfl := Option.some.inj hF
          exact k11 ls (lv_sub hl [0, 1, 2, 3] rfl)
  exact k3 64 29 1 ls (lv_sub hl [0, 1, 2, 3] rfl) q16
def f_S_has (a0 : Int64) : Option Int32 := Option.bind (if (lg_cmp a0 0) < 0 then (some (0) : Option (Int32)) else (if 0 ≤ (lg_cmp a0 1073729077) then (some (0)) else (some (1)))) (fun j1 => some (j1))
abbrev rm_S_has : Room := { frames := 0, cells := 0, slots := 0, locals := 0 }
set_option maxHeartbeats 4000000 in
set_option maxRecDepth 100000 in
theorem k_S_has (l : Launch) (a0 : Int64) (r : Int32) (hF : f_S_has a0 = some r) : Met l y_S_has (Cond.code y_S_has b_S_has 2 (some .boolean) :: wa) rm_S_has (pcs [.long a0]) (vp_Si (fun z => z = r)) 0 0 (fun _ => False) := by
  refine Met.ofW (cc := b_S_has) (maxL := 2) (ret := (some .boolean)) (by decide) rfl ?_
  intro p e s m args below meth c s₁ B hml hv
  obtain ⟨rfl, hN⟩ := hv
  have hx := B.exec
  have hb := B.bytes
  have hr := B.returns
  have hts := atoms_spec (ws := Cond.code y_S_has b_S_has 2 (some .boolean) :: wa) B.pre
  have hw : ∀ w ∈ wa, w.before _ s = true := fun w h => hts w (List.mem_cons_of_mem _ h)
  have hown : s.vm.findClass R_S = some m.cls := findClass_of_methodNamed B.named
  have hlocks := B.notSynchronized
  have hl := lv_entry ([.long a0]) (n := 2) (Nat.le_of_ble_eq_true rfl)
  rw [lg_entry_eq]
  generalize (lg_sl ([.long a0]) ++ List.replicate (2 - (lg_sl ([.long a0])).length) Slot.unset).toArray = ls at hl ⊢
  have hl : lv_has ls 2 [(0, .long a0)] := hl
  unfold f_S_has at hF
  refine lv_lload_n hx hb d_S_has_0 rfl (lv_at hl 0 rfl) ?_
  refine lv_lconst (v := 0) hx hb d_S_has_1 (by decide) ?_
  refine W.lcmp hx hb d_S_has_2 ?_
  obtain ⟨j1, q3, hF⟩ := Option.bind_eq_some_iff.mp hF
  have z_j1 : j1 = 0 ∨ j1 = 1 := by
    have h := q3
    (repeat' (split at h)) <;> (obtain rfl := Option.some.inj h; first | exact Or.inl rfl | exact Or.inr rfl)
  have k2 : ∀ (ls : Array Slot), lv_has ls 2 [] → W p l e rm_S_has s m ([Value.long a0] : List Value).toArray below meth c s.heap [] 0 0 (MQ below (vp_Si (fun z => z = r)) ([Value.long a0] : List Value).toArray s 0 0 (fun _ => False)) (F0 m 19 ls [.int j1]) := by
    intro ls hl
    obtain rfl := Option.some.inj hF
    exact W.zret hx hb hr (nz_b z_j1) (fun t ht hW => ⟨_, rfl, rfl, ht⟩) (fun _ h => nomatch h) d_S_has_19
  clear hF
  have hF := q3
  refine lv_if_lt hx hb d_S_has_3 (tgt := 18) (by decide) (fun h9 => ?_) (fun h9 => ?_)
  · have hF := (if_pos h9).symm.trans hF
    refine lv_iconst (v := 0) hx hb d_S_has_18 (by decide) ?_
    obtain rfl := Option.some.inj hF
    exact k2 ls (lv_sub hl [] rfl)
  · have hF := (if_neg h9).symm.trans hF
    refine lv_lload_n hx hb d_S_has_6 rfl (lv_at hl 0 rfl) ?_
    refine lv_ldc2 (v := 1073729077) hx hb hown (hw _ ww_128) d_S_has_7 ?_
    refine W.lcmp hx hb d_S_has_10 ?_
    refine lv_if_ge hx hb d_S_has_11 (tgt := 18) (by decide) (fun h9 => ?_) (fun h9 => ?_)
    · have hF := (if_pos h9).symm.trans hF
      refine lv_iconst (v := 0) hx hb d_S_has_18 (by decide) ?_
      obtain rfl := Option.some.inj hF
      exact k2 ls (lv_sub hl [] rfl)
    · have hF := (if_neg h9).symm.trans hF
      refine lv_iconst (v := 1) hx hb d_S_has_14 (by decide) ?_
      refine lv_goto hx hb d_S_has_15 (tgt := 19) (by decide) ?_
      obtain rfl := Option.some.inj hF
      exact k2 ls (lv_sub hl [] rfl)
def f_S_isUnit (a0 : Int64) : Option Int32 := Option.bind (if (lg_cmp a0 1) < 0 then (some (0) : Option (Int32)) else (if 0 ≤ (lg_cmp a0 1073729077) then (some (0)) else (some (1)))) (fun j1 => some (j1))
abbrev rm_S_isUnit : Room := { frames := 0, cells := 0, slots := 0, locals := 0 }
set_option maxHeartbeats 4000000 in
set_option maxRecDepth 100000 in
theorem k_S_isUnit (l : Launch) (a0 : Int64) (r : Int32) (hF : f_S_isUnit a0 = some r) : Met l y_S_isUnit (Cond.code y_S_isUnit b_S_isUnit 2 (some .boolean) :: wa) rm_S_isUnit (pcs [.long a0]) (vp_Si (fun z => z = r)) 0 0 (fun _ => False) := by
  refine Met.ofW (cc := b_S_isUnit) (maxL := 2) (ret := (some .boolean)) (by decide) rfl ?_
  intro p e s m args below meth c s₁ B hml hv
  obtain ⟨rfl, hN⟩ := hv
  have hx := B.exec
  have hb := B.bytes
  have hr := B.returns
  have hts := atoms_spec (ws := Cond.code y_S_isUnit b_S_isUnit 2 (some .boolean) :: wa) B.pre
  have hw : ∀ w ∈ wa, w.before _ s = true := fun w h => hts w (List.mem_cons_of_mem _ h)
  have hown : s.vm.findClass R_S = some m.cls := findClass_of_methodNamed B.named
  have hlocks := B.notSynchronized
  have hl := lv_entry ([.long a0]) (n := 2) (Nat.le_of_ble_eq_true rfl)
  rw [lg_entry_eq]
  generalize (lg_sl ([.long a0]) ++ List.replicate (2 - (lg_sl ([.long a0])).length) Slot.unset).toArray = ls at hl ⊢
  have hl : lv_has ls 2 [(0, .long a0)] := hl
  unfold f_S_isUnit at hF
  refine lv_lload_n hx hb d_S_isUnit_0 rfl (lv_at hl 0 rfl) ?_
  refine lv_lconst (v := 1) hx hb d_S_isUnit_1 (by decide) ?_
  refine W.lcmp hx hb d_S_isUnit_2 ?_
  obtain ⟨j1, q3, hF⟩ := Option.bind_eq_some_iff.mp hF
  have z_j1 : j1 = 0 ∨ j1 = 1 := by
    have h := q3
    (repeat' (split at h)) <;> (obtain rfl := Option.some.inj h; first | exact Or.inl rfl | exact Or.inr rfl)
  have k2 : ∀ (ls : Array Slot), lv_has ls 2 [] → W p l e rm_S_isUnit s m ([Value.long a0] : List Value).toArray below meth c s.heap [] 0 0 (MQ below (vp_Si (fun z => z = r)) ([Value.long a0] : List Value).toArray s 0 0 (fun _ => False)) (F0 m 19 ls [.int j1]) := by
    intro ls hl
    obtain rfl := Option.some.inj hF
    exact W.zret hx hb hr (nz_b z_j1) (fun t ht hW => ⟨_, rfl, rfl, ht⟩) (fun _ h => nomatch h) d_S_isUnit_19
  clear hF
  have hF := q3
  refine lv_if_lt hx hb d_S_isUnit_3 (tgt := 18) (by decide) (fun h9 => ?_) (fun h9 => ?_)
  · have hF := (if_pos h9).symm.trans hF
    refine lv_iconst (v := 0) hx hb d_S_isUnit_18 (by decide) ?_
    obtain rfl := Option.some.inj hF
    exact k2 ls (lv_sub hl [] rfl)
  · have hF := (if_neg h9).symm.trans hF
    refine lv_lload_n hx hb d_S_isUnit_6 rfl (lv_at hl 0 rfl) ?_
    refine lv_ldc2 (v := 1073729077) hx hb hown (hw _ ww_128) d_S_isUnit_7 ?_
    refine W.lcmp hx hb d_S_isUnit_10 ?_
    refine lv_if_ge hx hb d_S_isUnit_11 (tgt := 18) (by decide) (fun h9 => ?_) (fun h9 => ?_)
    · have hF := (if_pos h9).symm.trans hF
      refine lv_iconst (v := 0) hx hb d_S_isUnit_18 (by decide) ?_
      obtain rfl := Option.some.inj hF
      exact k2 ls (lv_sub hl [] rfl)
    · have hF := (if_neg h9).symm.trans hF
      refine lv_iconst (v := 1) hx hb d_S_isUnit_14 (by decide) ?_
      refine lv_goto hx hb d_S_isUnit_15 (tgt := 19) (by decide) ?_
      obtain rfl := Option.some.inj hF
      exact k2 ls (lv_sub hl [] rfl)
def f_S_quotient (a0 : Int64) (a1 : Int64) : Option Int64 := Option.bind (f_K_inverse a1 1073729077) (fun r1 => some (((a0 - a0 / 1073729077 * 1073729077) * r1) - ((a0 - a0 / 1073729077 * 1073729077) * r1) / 1073729077 * 1073729077))
abbrev rm_S_quotient : Room := { frames := 1, cells := 0, slots := 0, locals := 38 }
set_option maxHeartbeats 4000000 in
set_option maxRecDepth 100000 in
theorem k_S_quotient (l : Launch) (a0 : Int64) (a1 : Int64) (r : Int64) (hF : f_S_quotient a0 a1 = some r) : Met l y_S_quotient (Cond.code y_S_quotient b_S_quotient 4 (some .long) :: wa) rm_S_quotient (pcs [.long a0, .long a1]) (vp_Sl (fun z => z = r)) 0 0 (fun _ => False) := by
  refine Met.ofW (cc := b_S_quotient) (maxL := 4) (ret := (some .long)) (by decide) rfl ?_
  intro p e s m args below meth c s₁ B hml hv
  obtain ⟨rfl, hN⟩ := hv
  have hx := B.exec
  have hb := B.bytes
  have hr := B.returns
  have hts := atoms_spec (ws := Cond.code y_S_quotient b_S_quotient 4 (some .long) :: wa) B.pre
  have hw : ∀ w ∈ wa, w.before _ s = true := fun w h => hts w (List.mem_cons_of_mem _ h)
  have hown : s.vm.findClass R_S = some m.cls := findClass_of_methodNamed B.named
  have hlocks := B.notSynchronized
  have hl := lv_entry ([.long a0, .long a1]) (n := 4) (Nat.le_of_ble_eq_true rfl)
  rw [lg_entry_eq]
  generalize (lg_sl ([.long a0, .long a1]) ++ List.replicate (4 - (lg_sl ([.long a0, .long a1])).length) Slot.unset).toArray = ls at hl ⊢
  have hl : lv_has ls 4 [(0, .long a0), (2, .long a1)] := hl
  unfold f_S_quotient at hF
  refine lv_lload_n hx hb d_S_quotient_0 rfl (lv_at hl 0 rfl) ?_
  refine lv_ldc2 (v := 1073729077) hx hb hown (hw _ ww_128) d_S_quotient_1 ?_
  refine lv_lrem hx hb d_S_quotient_4 (by decide) ?_
  refine lv_lload_n hx hb d_S_quotient_5 rfl (lv_at hl 1 rfl) ?_
  refine lv_ldc2 (v := 1073729077) hx hb hown (hw _ ww_128) d_S_quotient_6 ?_
  obtain ⟨r1, e_r1, hF⟩ := Option.bind_eq_some_iff.mp hF
  refine vp_callSl (va_runSN (As := [.long a1, .long 1073729077]) (rest := [.long (a0 - a0 / 1073729077 * 1073729077)]) ⟨hx, hb, hml, hown, hts⟩ (k_K_inverse l a1 1073729077 r1 e_r1) ⟨va_cnB 2 hts (ga_N ww_166) rfl rfl rfl (hN _ nl_5) (hw _ ww_1) (by decide +kernel) ⟨by decide, by decide⟩, hw _ ww_165, trivial⟩ (pcs_pre hN) rfl rfl hl.1 rfl (lv_room (Nat.le_of_ble_eq_true rfl)) d_S_quotient_9 ⟨Nat.zero_le _, Nat.zero_le _⟩).run (fun z9 hz9 => ?_)
  obtain rfl : r1 = z9 := hz9.symm
  refine lv_lmul hx hb d_S_quotient_12 ?_
  refine lv_ldc2 (v := 1073729077) hx hb hown (hw _ ww_128) d_S_quotient_13 ?_
  refine lv_lrem hx hb d_S_quotient_16 (by decide) ?_
  obtain rfl := Option.some.inj hF
  exact W.lret hx hb hr (fun t ht hW => ⟨_, rfl, rfl, ht⟩) (fun _ h => nomatch h) d_S_quotient_17
def f_C_xOf (a0 : Int64) : Option Int64 := some (a0 / 4294967296)
abbrev rm_C_xOf : Room := { frames := 0, cells := 0, slots := 0, locals := 0 }
set_option maxHeartbeats 4000000 in
set_option maxRecDepth 100000 in
theorem k_C_xOf (l : Launch) (a0 : Int64) (r : Int64) (hF : f_C_xOf a0 = some r) : Met l y_C_xOf (Cond.code y_C_xOf b_C_xOf 2 (some .long) :: wa) rm_C_xOf (pcs [.long a0]) (vp_Sl (fun z => z = r)) 0 0 (fun _ => False) := by
  refine Met.ofW (cc := b_C_xOf) (maxL := 2) (ret := (some .long)) (by decide) rfl ?_
  intro p e s m args below meth c s₁ B hml hv
  obtain ⟨rfl, hN⟩ := hv
  have hx := B.exec
  have hb := B.bytes
  have hr := B.returns
  have hts := atoms_spec (ws := Cond.code y_C_xOf b_C_xOf 2 (some .long) :: wa) B.pre
  have hw : ∀ w ∈ wa, w.before _ s = true := fun w h => hts w (List.mem_cons_of_mem _ h)
  have hown : s.vm.findClass R_C = some m.cls := findClass_of_methodNamed B.named
  have hlocks := B.notSynchronized
  have hl := lv_entry ([.long a0]) (n := 2) (Nat.le_of_ble_eq_true rfl)
  rw [lg_entry_eq]
  generalize (lg_sl ([.long a0]) ++ List.replicate (2 - (lg_sl ([.long a0])).length) Slot.unset).toArray = ls at hl ⊢
  have hl : lv_has ls 2 [(0, .long a0)] := hl
  unfold f_C_xOf at hF
  refine lv_lload_n hx hb d_C_xOf_0 rfl (lv_at hl 0 rfl) ?_
  refine lv_ldc2 (v := 4294967296) hx hb hown (hw _ ww_95) d_C_xOf_1 ?_
  refine lv_ldiv hx hb d_C_xOf_4 (by decide) ?_
  obtain rfl := Option.some.inj hF
  exact W.lret hx hb hr (fun t ht hW => ⟨_, rfl, rfl, ht⟩) (fun _ h => nomatch h) d_C_xOf_5
def f_C_yOf (a0 : Int64) : Option Int64 := some (a0 - a0 / 4294967296 * 4294967296)
abbrev rm_C_yOf : Room := { frames := 0, cells := 0, slots := 0, locals := 0 }
set_option maxHeartbeats 4000000 in
set_option maxRecDepth 100000 in
theorem k_C_yOf (l : Launch) (a0 : Int64) (r : Int64) (hF : f_C_yOf a0 = some r) : Met l y_C_yOf (Cond.code y_C_yOf b_C_yOf 2 (some .long) :: wa) rm_C_yOf (pcs [.long a0]) (vp_Sl (fun z => z = r)) 0 0 (fun _ => False) := by
  refine Met.ofW (cc := b_C_yOf) (maxL := 2) (ret := (some .long)) (by decide) rfl ?_
  intro p e s m args below meth c s₁ B hml hv
  obtain ⟨rfl, hN⟩ := hv
  have hx := B.exec
  have hb := B.bytes
  have hr := B.returns
  have hts := atoms_spec (ws := Cond.code y_C_yOf b_C_yOf 2 (some .long) :: wa) B.pre
  have hw : ∀ w ∈ wa, w.before _ s = true := fun w h => hts w (List.mem_cons_of_mem _ h)
  have hown : s.vm.findClass R_C = some m.cls := findClass_of_methodNamed B.named
  have hlocks := B.notSynchronized
  have hl := lv_entry ([.long a0]) (n := 2) (Nat.le_of_ble_eq_true rfl)
  rw [lg_entry_eq]
  generalize (lg_sl ([.long a0]) ++ List.replicate (2 - (lg_sl ([.long a0])).length) Slot.unset).toArray = ls at hl ⊢
  have hl : lv_has ls 2 [(0, .long a0)] := hl
  unfold f_C_yOf at hF
  refine lv_lload_n hx hb d_C_yOf_0 rfl (lv_at hl 0 rfl) ?_
  refine lv_ldc2 (v := 4294967296) hx hb hown (hw _ ww_95) d_C_yOf_1 ?_
  refine lv_lrem hx hb d_C_yOf_4 (by decide) ?_
  obtain rfl := Option.some.inj hF
  exact W.lret hx hb hr (fun t ht hW => ⟨_, rfl, rfl, ht⟩) (fun _ h => nomatch h) d_C_yOf_5
def f_C_isOdd (a0 : Int64) : Option Int32 := Option.bind (if (lg_cmp (a0 - a0 / 2 * 2) 1) = 0 then (some (1) : Option (Int32)) else (some (0))) (fun j1 => some (j1))
abbrev rm_C_isOdd : Room := { frames := 0, cells := 0, slots := 0, locals := 0 }
set_option maxHeartbeats 4000000 in
set_option maxRecDepth 100000 in
theorem k_C_isOdd (l : Launch) (a0 : Int64) (r : Int32) (hF : f_C_isOdd a0 = some r) : Met l y_C_isOdd (Cond.code y_C_isOdd b_C_isOdd 2 (some .boolean) :: wa) rm_C_isOdd (pcs [.long a0]) (vp_Si (fun z => z = r)) 0 0 (fun _ => False) := by
  refine Met.ofW (cc := b_C_isOdd) (maxL := 2) (ret := (some .boolean)) (by decide) rfl ?_
  intro p e s m args below meth c s₁ B hml hv
  obtain ⟨rfl, hN⟩ := hv
  have hx := B.exec
  have hb := B.bytes
  have hr := B.returns
  have hts := atoms_spec (ws := Cond.code y_C_isOdd b_C_isOdd 2 (some .boolean) :: wa) B.pre
  have hw : ∀ w ∈ wa, w.before _ s = true := fun w h => hts w (List.mem_cons_of_mem _ h)
  have hown : s.vm.findClass R_C = some m.cls := findClass_of_methodNamed B.named
  have hlocks := B.notSynchronized
  have hl := lv_entry ([.long a0]) (n := 2) (Nat.le_of_ble_eq_true rfl)
  rw [lg_entry_eq]
  generalize (lg_sl ([.long a0]) ++ List.replicate (2 - (lg_sl ([.long a0])).length) Slot.unset).toArray = ls at hl ⊢
  have hl : lv_has ls 2 [(0, .long a0)] := hl
  unfold f_C_isOdd at hF
  refine lv_lload_n hx hb d_C_isOdd_0 rfl (lv_at hl 0 rfl) ?_
  refine lv_ldc2 (v := 2) hx hb hown (hw _ ww_99) d_C_isOdd_1 ?_
  refine lv_lrem hx hb d_C_isOdd_4 (by decide) ?_
  refine lv_lconst (v := 1) hx hb d_C_isOdd_5 (by decide) ?_
  refine W.lcmp hx hb d_C_isOdd_6 ?_
  obtain ⟨j1, q3, hF⟩ := Option.bind_eq_some_iff.mp hF
  have z_j1 : j1 = 0 ∨ j1 = 1 := by
    have h := q3
    (repeat' (split at h)) <;> (obtain rfl := Option.some.inj h; first | exact Or.inl rfl | exact Or.inr rfl)
  have k2 : ∀ (ls : Array Slot), lv_has ls 2 [] → W p l e rm_C_isOdd s m ([Value.long a0] : List Value).toArray below meth c s.heap [] 0 0 (MQ below (vp_Si (fun z => z = r)) ([Value.long a0] : List Value).toArray s 0 0 (fun _ => False)) (F0 m 15 ls [.int j1]) := by
    intro ls hl
    obtain rfl := Option.some.inj hF
    exact W.zret hx hb hr (nz_b z_j1) (fun t ht hW => ⟨_, rfl, rfl, ht⟩) (fun _ h => nomatch h) d_C_isOdd_15
  clear hF
  have hF := q3
  refine lv_if_ne hx hb d_C_isOdd_7 (tgt := 14) (by decide) (fun h9 => ?_) (fun h9 => ?_)
  · have hF := (if_neg h9).symm.trans hF
    refine lv_iconst (v := 0) hx hb d_C_isOdd_14 (by decide) ?_
    obtain rfl := Option.some.inj hF
    exact k2 ls (lv_sub hl [] rfl)
  · have hF := (if_pos h9).symm.trans hF
    refine lv_iconst (v := 1) hx hb d_C_isOdd_10 (by decide) ?_
    refine lv_goto hx hb d_C_isOdd_11 (tgt := 15) (by decide) ?_
    obtain rfl := Option.some.inj hF
    exact k2 ls (lv_sub hl [] rfl)
def f_K_markOf (a0 : Int64) (a1 : Int64) : Option Int32 := Option.bind (f_C_isOdd a0) (fun r1 => Option.bind (if (lg_cmp a1 536864538) ≤ 0 then (some (0) : Option (Int32)) else (some (1))) (fun j2 => Option.bind (if r1 = j2 then (some (0) : Option (Int32)) else (some (1))) (fun j6 => Option.bind (f_C_xOf a0) (fun r10 => Option.bind (if (lg_cmp r10 1073729077) < 0 then (some (j6) : Option (Int32)) else (some (j6 + 2))) (fun j11 => some (j11))))))
abbrev rm_K_markOf : Room := { frames := 1, cells := 0, slots := 0, locals := 21 }
set_option maxHeartbeats 4000000 in
set_option maxRecDepth 100000 in
theorem k_K_markOf (l : Launch) (a0 : Int64) (a1 : Int64) (r : Int32) (hF : f_K_markOf a0 a1 = some r) : Met l y_K_markOf (Cond.code y_K_markOf b_K_markOf 5 (some .int) :: wa) rm_K_markOf (pcs [.long a0, .long a1]) (vp_Si (fun z => z = r)) 0 0 (fun _ => False) := by
  refine Met.ofW (cc := b_K_markOf) (maxL := 5) (ret := (some .int)) (by decide) rfl ?_
  intro p e s m args below meth c s₁ B hml hv
  obtain ⟨rfl, hN⟩ := hv
  have hx := B.exec
  have hb := B.bytes
  have hr := B.returns
  have hts := atoms_spec (ws := Cond.code y_K_markOf b_K_markOf 5 (some .int) :: wa) B.pre
  have hw : ∀ w ∈ wa, w.before _ s = true := fun w h => hts w (List.mem_cons_of_mem _ h)
  have hown : s.vm.findClass R_K = some m.cls := findClass_of_methodNamed B.named
  have hlocks := B.notSynchronized
  have hl := lv_entry ([.long a0, .long a1]) (n := 5) (Nat.le_of_ble_eq_true rfl)
  rw [lg_entry_eq]
  generalize (lg_sl ([.long a0, .long a1]) ++ List.replicate (5 - (lg_sl ([.long a0, .long a1])).length) Slot.unset).toArray = ls at hl ⊢
  have hl : lv_has ls 5 [(0, .long a0), (2, .long a1)] := hl
  unfold f_K_markOf at hF
  refine lv_lload_n hx hb d_K_markOf_0 rfl (lv_at hl 0 rfl) ?_
  obtain ⟨r1, e_r1, hF⟩ := Option.bind_eq_some_iff.mp hF
  refine vp_callSi (va_runS (As := [.long a0]) (rest := []) ⟨hx, hb, hml, hown, hts⟩ (k_C_isOdd l a0 r1 e_r1) (va_cwS 1 hts (ga_S ww_425 ww_97 ww_11 ww_98) rfl rfl rfl (by decide +kernel) ⟨by decide, by decide⟩) (pcs_pre hN) rfl rfl hl.1 rfl (lv_room (Nat.le_of_ble_eq_true rfl)) d_K_markOf_1 ⟨Nat.zero_le _, Nat.zero_le _⟩).run (fun z9 hz9 => ?_)
  obtain rfl : r1 = z9 := hz9.symm
  refine lv_lload_n hx hb d_K_markOf_4 rfl (lv_at hl 1 rfl) ?_
  refine lv_ldc2 (v := 536864538) hx hb hown (hw _ ww_426) d_K_markOf_5 ?_
  refine W.lcmp hx hb d_K_markOf_8 ?_
  obtain ⟨j2, q4, hF⟩ := Option.bind_eq_some_iff.mp hF
  have z_j2 : j2 = 0 ∨ j2 = 1 := by
    have h := q4
    (repeat' (split at h)) <;> (obtain rfl := Option.some.inj h; first | exact Or.inl rfl | exact Or.inr rfl)
  have k3 : ∀ (ls : Array Slot), lv_has ls 5 [(0, .long a0)] → W p l e rm_K_markOf s m ([Value.long a0, Value.long a1] : List Value).toArray below meth c s.heap [] 0 0 (MQ below (vp_Si (fun z => z = r)) ([Value.long a0, Value.long a1] : List Value).toArray s 0 0 (fun _ => False)) (F0 m 17 ls [.int j2, .int r1]) := by
    intro ls hl
    obtain ⟨j6, q8, hF⟩ := Option.bind_eq_some_iff.mp hF
    have z_j6 : j6 = 0 ∨ j6 = 1 := by
      have h := q8
      (repeat' (split at h)) <;> (obtain rfl := Option.some.inj h; first | exact Or.inl rfl | exact Or.inr rfl)
    have k7 : ∀ (ls : Array Slot), lv_has ls 5 [(0, .long a0)] → W p l e rm_K_markOf s m ([Value.long a0, Value.long a1] : List Value).toArray below meth c s.heap [] 0 0 (MQ below (vp_Si (fun z => z = r)) ([Value.long a0, Value.long a1] : List Value).toArray s 0 0 (fun _ => False)) (F0 m 25 ls [.int j6]) := by
      intro ls hl
      refine lv_istore hx hb d_K_markOf_25 hl (by decide) (lv' := [(4, .int j6), (0, .long a0)]) rfl (fun ls hl => ?_)
      refine lv_lload_n hx hb d_K_markOf_27 rfl (lv_at hl 1 rfl) ?_
      obtain ⟨r10, e_r10, hF⟩ := Option.bind_eq_some_iff.mp hF
      refine vp_callSl (va_runS (As := [.long a0]) (rest := []) ⟨hx, hb, hml, hown, hts⟩ (k_C_xOf l a0 r10 e_r10) (va_cwS 1 hts (ga_S ww_417 ww_104 ww_11 ww_105) rfl rfl rfl (by decide +kernel) ⟨by decide, by decide⟩) (pcs_pre hN) rfl rfl hl.1 rfl (lv_room (Nat.le_of_ble_eq_true rfl)) d_K_markOf_28 ⟨Nat.zero_le _, Nat.zero_le _⟩).run (fun z9 hz9 => ?_)
      obtain rfl : r10 = z9 := hz9.symm
      refine lv_ldc2 (v := 1073729077) hx hb hown (hw _ ww_146) d_K_markOf_31 ?_
      refine W.lcmp hx hb d_K_markOf_34 ?_
      obtain ⟨j11, q13, hF⟩ := Option.bind_eq_some_iff.mp hF
      have k12 : ∀ (ls : Array Slot), lv_has ls 5 [] → W p l e rm_K_markOf s m ([Value.long a0, Value.long a1] : List Value).toArray below meth c s.heap [] 0 0 (MQ below (vp_Si (fun z => z = r)) ([Value.long a0, Value.long a1] : List Value).toArray s 0 0 (fun _ => False)) (F0 m 47 ls [.int j11]) := by
        intro ls hl
        obtain rfl := Option.some.inj hF
        exact W.iret hx hb hr (fun t ht hW => ⟨_, rfl, rfl, ht⟩) (fun _ h => nomatch h) d_K_markOf_47
      clear hF
      have hF := q13
      refine lv_if_lt hx hb d_K_markOf_35 (tgt := 45) (by decide) (fun h9 => ?_) (fun h9 => ?_)
      · have hF := (if_pos h9).symm.trans hF
        refine lv_iload hx hb d_K_markOf_45 (lv_at hl 0 rfl) ?_
        obtain rfl := Option.some.inj hF
        exact k12 ls (lv_sub hl [] rfl)
      · have hF := (if_neg h9).symm.trans hF
        refine lv_iload hx hb d_K_markOf_38 (lv_at hl 0 rfl) ?_
        refine lv_iconst (v := 2) hx hb d_K_markOf_40 (by decide) ?_
        refine lv_iadd hx hb d_K_markOf_41 ?_
        refine lv_goto hx hb d_K_markOf_42 (tgt := 47) (by decide) ?_
        obtain rfl := Option.some.inj hF
        exact k12 ls (lv_sub hl [] rfl)
    clear hF
    have hF := q8
    refine lv_icmp_eq hx hb d_K_markOf_17 (tgt := 24) (by decide) (fun h9 => ?_) (fun h9 => ?_)
    · have hF := (if_pos h9).symm.trans hF
      refine lv_iconst (v := 0) hx hb d_K_markOf_24 (by decide) ?_
      obtain rfl := Option.some.inj hF
      exact k7 ls (lv_sub hl [0] rfl)
    · have hF := (if_neg h9).symm.trans hF
      refine lv_iconst (v := 1) hx hb d_K_markOf_20 (by decide) ?_
      refine lv_goto hx hb d_K_markOf_21 (tgt := 25) (by decide) ?_
      obtain rfl := Option.some.inj hF
      exact k7 ls (lv_sub hl [0] rfl)
  clear hF
  have hF := q4
  refine lv_if_le hx hb d_K_markOf_9 (tgt := 16) (by decide) (fun h9 => ?_) (fun h9 => ?_)
  · have hF := (if_pos h9).symm.trans hF
    refine lv_iconst (v := 0) hx hb d_K_markOf_16 (by decide) ?_
    obtain rfl := Option.some.inj hF
    exact k3 ls (lv_sub hl [0] rfl)
  · have hF := (if_neg h9).symm.trans hF
    refine lv_iconst (v := 1) hx hb d_K_markOf_12 (by decide) ?_
    refine lv_goto hx hb d_K_markOf_13 (tgt := 17) (by decide) ?_
    obtain rfl := Option.some.inj hF
    exact k3 ls (lv_sub hl [0] rfl)
def f_K_evenScalar (a0 : Int64) (a1 : Int64) : Option Int64 := Option.bind (f_C_isOdd a1) (fun r1 => Option.bind (if r1 = 0 then (some (a0) : Option (Int64)) else (some (1073729077 - a0))) (fun j2 => some (j2)))
abbrev rm_K_evenScalar : Room := { frames := 1, cells := 0, slots := 0, locals := 21 }
set_option maxHeartbeats 4000000 in
set_option maxRecDepth 100000 in
theorem k_K_evenScalar (l : Launch) (a0 : Int64) (a1 : Int64) (r : Int64) (hF : f_K_evenScalar a0 a1 = some r) : Met l y_K_evenScalar (Cond.code y_K_evenScalar b_K_evenScalar 4 (some .long) :: wa) rm_K_evenScalar (pcs [.long a0, .long a1]) (vp_Sl (fun z => z = r)) 0 0 (fun _ => False) := by
  refine Met.ofW (cc := b_K_evenScalar) (maxL := 4) (ret := (some .long)) (by decide) rfl ?_
  intro p e s m args below meth c s₁ B hml hv
  obtain ⟨rfl, hN⟩ := hv
  have hx := B.exec
  have hb := B.bytes
  have hr := B.returns
  have hts := atoms_spec (ws := Cond.code y_K_evenScalar b_K_evenScalar 4 (some .long) :: wa) B.pre
  have hw : ∀ w ∈ wa, w.before _ s = true := fun w h => hts w (List.mem_cons_of_mem _ h)
  have hown : s.vm.findClass R_K = some m.cls := findClass_of_methodNamed B.named
  have hlocks := B.notSynchronized
  have hl := lv_entry ([.long a0, .long a1]) (n := 4) (Nat.le_of_ble_eq_true rfl)
  rw [lg_entry_eq]
  generalize (lg_sl ([.long a0, .long a1]) ++ List.replicate (4 - (lg_sl ([.long a0, .long a1])).length) Slot.unset).toArray = ls at hl ⊢
  have hl : lv_has ls 4 [(0, .long a0), (2, .long a1)] := hl
  unfold f_K_evenScalar at hF
  refine lv_lload_n hx hb d_K_evenScalar_0 rfl (lv_at hl 1 rfl) ?_
  obtain ⟨r1, e_r1, hF⟩ := Option.bind_eq_some_iff.mp hF
  refine vp_callSi (va_runS (As := [.long a1]) (rest := []) ⟨hx, hb, hml, hown, hts⟩ (k_C_isOdd l a1 r1 e_r1) (va_cwS 1 hts (ga_S ww_425 ww_97 ww_11 ww_98) rfl rfl rfl (by decide +kernel) ⟨by decide, by decide⟩) (pcs_pre hN) rfl rfl hl.1 rfl (lv_room (Nat.le_of_ble_eq_true rfl)) d_K_evenScalar_1 ⟨Nat.zero_le _, Nat.zero_le _⟩).run (fun z9 hz9 => ?_)
  obtain rfl : r1 = z9 := hz9.symm
  obtain ⟨j2, q4, hF⟩ := Option.bind_eq_some_iff.mp hF
  have k3 : ∀ (ls : Array Slot), lv_has ls 4 [] → W p l e rm_K_evenScalar s m ([Value.long a0, Value.long a1] : List Value).toArray below meth c s.heap [] 0 0 (MQ below (vp_Sl (fun z => z = r)) ([Value.long a0, Value.long a1] : List Value).toArray s 0 0 (fun _ => False)) (F0 m 16 ls [.long j2]) := by
    intro ls hl
    obtain rfl := Option.some.inj hF
    exact W.lret hx hb hr (fun t ht hW => ⟨_, rfl, rfl, ht⟩) (fun _ h => nomatch h) d_K_evenScalar_16
  clear hF
  have hF := q4
  refine lv_if_eq hx hb d_K_evenScalar_4 (tgt := 15) (by decide) (fun h9 => ?_) (fun h9 => ?_)
  · have hF := (if_pos h9).symm.trans hF
    refine lv_lload_n hx hb d_K_evenScalar_15 rfl (lv_at hl 0 rfl) ?_
    obtain rfl := Option.some.inj hF
    exact k3 ls (lv_sub hl [] rfl)
  · have hF := (if_neg h9).symm.trans hF
    refine lv_ldc2 (v := 1073729077) hx hb hown (hw _ ww_146) d_K_evenScalar_7 ?_
    refine lv_lload_n hx hb d_K_evenScalar_10 rfl (lv_at hl 0 rfl) ?_
    refine lv_lsub hx hb d_K_evenScalar_11 ?_
    refine lv_goto hx hb d_K_evenScalar_12 (tgt := 16) (by decide) ?_
    obtain rfl := Option.some.inj hF
    exact k3 ls (lv_sub hl [] rfl)
def f_C_negative (a0 : Int64) : Option Int64 := Option.bind (if (lg_cmp a0 0) = 0 then (some (0) : Option (Int64)) else (Option.bind (f_C_xOf a0) (fun r5 => Option.bind (f_C_yOf a0) (fun r6 => some ((r5 * 4294967296) + (1073735023 - r6)))))) (fun j1 => some (j1))
abbrev rm_C_negative : Room := { frames := 1, cells := 0, slots := 0, locals := 21 }
set_option maxHeartbeats 4000000 in
set_option maxRecDepth 100000 in
theorem k_C_negative (l : Launch) (a0 : Int64) (r : Int64) (hF : f_C_negative a0 = some r) : Met l y_C_negative (Cond.code y_C_negative b_C_negative 2 (some .long) :: wa) rm_C_negative (pcs [.long a0]) (vp_Sl (fun z => z = r)) 0 0 (fun _ => False) := by
  refine Met.ofW (cc := b_C_negative) (maxL := 2) (ret := (some .long)) (by decide) rfl ?_
  intro p e s m args below meth c s₁ B hml hv
  obtain ⟨rfl, hN⟩ := hv
  have hx := B.exec
  have hb := B.bytes
  have hr := B.returns
  have hts := atoms_spec (ws := Cond.code y_C_negative b_C_negative 2 (some .long) :: wa) B.pre
  have hw : ∀ w ∈ wa, w.before _ s = true := fun w h => hts w (List.mem_cons_of_mem _ h)
  have hown : s.vm.findClass R_C = some m.cls := findClass_of_methodNamed B.named
  have hlocks := B.notSynchronized
  have hl := lv_entry ([.long a0]) (n := 2) (Nat.le_of_ble_eq_true rfl)
  rw [lg_entry_eq]
  generalize (lg_sl ([.long a0]) ++ List.replicate (2 - (lg_sl ([.long a0])).length) Slot.unset).toArray = ls at hl ⊢
  have hl : lv_has ls 2 [(0, .long a0)] := hl
  unfold f_C_negative at hF
  refine lv_lload_n hx hb d_C_negative_0 rfl (lv_at hl 0 rfl) ?_
  refine lv_lconst (v := 0) hx hb d_C_negative_1 (by decide) ?_
  refine W.lcmp hx hb d_C_negative_2 ?_
  obtain ⟨j1, q3, hF⟩ := Option.bind_eq_some_iff.mp hF
  have k2 : ∀ (ls : Array Slot), lv_has ls 2 [] → W p l e rm_C_negative s m ([Value.long a0] : List Value).toArray below meth c s.heap [] 0 0 (MQ below (vp_Sl (fun z => z = r)) ([Value.long a0] : List Value).toArray s 0 0 (fun _ => False)) (F0 m 27 ls [.long j1]) := by
    intro ls hl
    obtain rfl := Option.some.inj hF
    exact W.lret hx hb hr (fun t ht hW => ⟨_, rfl, rfl, ht⟩) (fun _ h => nomatch h) d_C_negative_27
  clear hF
  have hF := q3
  refine lv_if_ne hx hb d_C_negative_3 (tgt := 10) (by decide) (fun h9 => ?_) (fun h9 => ?_)
  · have hF := (if_neg h9).symm.trans hF
    refine lv_lload_n hx hb d_C_negative_10 rfl (lv_at hl 0 rfl) ?_
    obtain ⟨r5, e_r5, hF⟩ := Option.bind_eq_some_iff.mp hF
    refine vp_callSl (va_runS (As := [.long a0]) (rest := []) ⟨hx, hb, hml, hown, hts⟩ (k_C_xOf l a0 r5 e_r5) (va_cwS 1 hts (ga_S ww_103 ww_104 ww_11 ww_105) rfl rfl rfl (by decide +kernel) ⟨by decide, by decide⟩) (pcs_pre hN) rfl rfl hl.1 rfl (lv_room (Nat.le_of_ble_eq_true rfl)) d_C_negative_11 ⟨Nat.zero_le _, Nat.zero_le _⟩).run (fun z9 hz9 => ?_)
    obtain rfl : r5 = z9 := hz9.symm
    refine lv_ldc2 (v := 4294967296) hx hb hown (hw _ ww_95) d_C_negative_14 ?_
    refine lv_lmul hx hb d_C_negative_17 ?_
    refine lv_ldc2 (v := 1073735023) hx hb hown (hw _ ww_89) d_C_negative_18 ?_
    refine lv_lload_n hx hb d_C_negative_21 rfl (lv_at hl 0 rfl) ?_
    obtain ⟨r6, e_r6, hF⟩ := Option.bind_eq_some_iff.mp hF
    refine vp_callSl (va_runS (As := [.long a0]) (rest := [.long 1073735023, .long (r5 * 4294967296)]) ⟨hx, hb, hml, hown, hts⟩ (k_C_yOf l a0 r6 e_r6) (va_cwS 1 hts (ga_S ww_106 ww_107 ww_11 ww_108) rfl rfl rfl (by decide +kernel) ⟨by decide, by decide⟩) (pcs_pre hN) rfl rfl hl.1 rfl (lv_room (Nat.le_of_ble_eq_true rfl)) d_C_negative_22 ⟨Nat.zero_le _, Nat.zero_le _⟩).run (fun z9 hz9 => ?_)
    obtain rfl : r6 = z9 := hz9.symm
    refine lv_lsub hx hb d_C_negative_25 ?_
    refine lv_ladd hx hb d_C_negative_26 ?_
    obtain rfl := Option.some.inj hF
    exact k2 ls (lv_sub hl [] rfl)
  · have hF := (if_pos h9).symm.trans hF
    refine lv_lconst (v := 0) hx hb d_C_negative_6 (by decide) ?_
    refine lv_goto hx hb d_C_negative_7 (tgt := 27) (by decide) ?_
    obtain rfl := Option.some.inj hF
    exact k2 ls (lv_sub hl [] rfl)
def f_C_evenOf (a0 : Int64) : Option Int64 := Option.bind (f_C_isOdd a0) (fun r1 => Option.bind (if r1 = 0 then (some (a0) : Option (Int64)) else (Option.bind (f_C_negative a0) (fun r6 => some (r6)))) (fun j2 => some (j2)))
abbrev rm_C_evenOf : Room := { frames := 2, cells := 0, slots := 0, locals := 42 }
set_option maxHeartbeats 4000000 in
set_option maxRecDepth 100000 in
theorem k_C_evenOf (l : Launch) (a0 : Int64) (r : Int64) (hF : f_C_evenOf a0 = some r) : Met l y_C_evenOf (Cond.code y_C_evenOf b_C_evenOf 2 (some .long) :: wa) rm_C_evenOf (pcs [.long a0]) (vp_Sl (fun z => z = r)) 0 0 (fun _ => False) := by
  refine Met.ofW (cc := b_C_evenOf) (maxL := 2) (ret := (some .long)) (by decide) rfl ?_
  intro p e s m args below meth c s₁ B hml hv
  obtain ⟨rfl, hN⟩ := hv
  have hx := B.exec
  have hb := B.bytes
  have hr := B.returns
  have hts := atoms_spec (ws := Cond.code y_C_evenOf b_C_evenOf 2 (some .long) :: wa) B.pre
  have hw : ∀ w ∈ wa, w.before _ s = true := fun w h => hts w (List.mem_cons_of_mem _ h)
  have hown : s.vm.findClass R_C = some m.cls := findClass_of_methodNamed B.named
  have hlocks := B.notSynchronized
  have hl := lv_entry ([.long a0]) (n := 2) (Nat.le_of_ble_eq_true rfl)
  rw [lg_entry_eq]
  generalize (lg_sl ([.long a0]) ++ List.replicate (2 - (lg_sl ([.long a0])).length) Slot.unset).toArray = ls at hl ⊢
  have hl : lv_has ls 2 [(0, .long a0)] := hl
  unfold f_C_evenOf at hF
  refine lv_lload_n hx hb d_C_evenOf_0 rfl (lv_at hl 0 rfl) ?_
  obtain ⟨r1, e_r1, hF⟩ := Option.bind_eq_some_iff.mp hF
  refine vp_callSi (va_runS (As := [.long a0]) (rest := []) ⟨hx, hb, hml, hown, hts⟩ (k_C_isOdd l a0 r1 e_r1) (va_cwS 1 hts (ga_S ww_96 ww_97 ww_11 ww_98) rfl rfl rfl (by decide +kernel) ⟨by decide, by decide⟩) (pcs_pre hN) rfl rfl hl.1 rfl (lv_room (Nat.le_of_ble_eq_true rfl)) d_C_evenOf_1 ⟨Nat.zero_le _, Nat.zero_le _⟩).run (fun z9 hz9 => ?_)
  obtain rfl : r1 = z9 := hz9.symm
  obtain ⟨j2, q4, hF⟩ := Option.bind_eq_some_iff.mp hF
  have k3 : ∀ (ls : Array Slot), lv_has ls 2 [] → W p l e rm_C_evenOf s m ([Value.long a0] : List Value).toArray below meth c s.heap [] 0 0 (MQ below (vp_Sl (fun z => z = r)) ([Value.long a0] : List Value).toArray s 0 0 (fun _ => False)) (F0 m 15 ls [.long j2]) := by
    intro ls hl
    obtain rfl := Option.some.inj hF
    exact W.lret hx hb hr (fun t ht hW => ⟨_, rfl, rfl, ht⟩) (fun _ h => nomatch h) d_C_evenOf_15
  clear hF
  have hF := q4
  refine lv_if_eq hx hb d_C_evenOf_4 (tgt := 14) (by decide) (fun h9 => ?_) (fun h9 => ?_)
  · have hF := (if_pos h9).symm.trans hF
    refine lv_lload_n hx hb d_C_evenOf_14 rfl (lv_at hl 0 rfl) ?_
    obtain rfl := Option.some.inj hF
    exact k3 ls (lv_sub hl [] rfl)
  · have hF := (if_neg h9).symm.trans hF
    refine lv_lload_n hx hb d_C_evenOf_7 rfl (lv_at hl 0 rfl) ?_
    obtain ⟨r6, e_r6, hF⟩ := Option.bind_eq_some_iff.mp hF
    refine vp_callSl (va_runS (As := [.long a0]) (rest := []) ⟨hx, hb, hml, hown, hts⟩ (k_C_negative l a0 r6 e_r6) (va_cwS 1 hts (ga_S ww_100 ww_101 ww_11 ww_102) rfl rfl rfl (by decide +kernel) ⟨by decide, by decide⟩) (pcs_pre hN) rfl rfl hl.1 rfl (lv_room (Nat.le_of_ble_eq_true rfl)) d_C_evenOf_8 ⟨Nat.zero_le _, Nat.zero_le _⟩).run (fun z9 hz9 => ?_)
    obtain rfl : r6 = z9 := hz9.symm
    refine lv_goto hx hb d_C_evenOf_11 (tgt := 15) (by decide) ?_
    obtain rfl := Option.some.inj hF
    exact k3 ls (lv_sub hl [] rfl)
def f_C_pointAt (a0 : Int64) (a1 : Int32) : Option Int64 := Option.bind (f_F_has a0) (fun r1 => if r1 = 0 then (some (0)) else (Option.bind (some (((((a0 * a0) - (a0 * a0) / 1073735023 * 1073735023) * a0) + 7) - ((((a0 * a0) - (a0 * a0) / 1073735023 * 1073735023) * a0) + 7) / 1073735023 * 1073735023)) (fun v2 => Option.bind (f_F_rootIfAny v2) (fun r3 => if (lg_cmp ((r3 * r3) - (r3 * r3) / 1073735023 * 1073735023) v2) = 0 then (Option.bind (some ((a0 * 4294967296) + r3)) (fun v4 => Option.bind (f_C_isOdd v4) (fun r5 => Option.bind (if r5 = a1 then (some (v4) : Option (Int64)) else (Option.bind (f_C_negative v4) (fun r10 => some (r10)))) (fun j6 => some (j6))))) else (some (0))))))
abbrev rm_C_pointAt : Room := { frames := 2, cells := 0, slots := 0, locals := 42 }
set_option maxHeartbeats 4000000 in
set_option maxRecDepth 100000 in
theorem k_C_pointAt (l : Launch) (a0 : Int64) (a1 : Int32) (r : Int64) (hF : f_C_pointAt a0 a1 = some r) : Met l y_C_pointAt (Cond.code y_C_pointAt b_C_pointAt 9 (some .long) :: wa) rm_C_pointAt (pcs [.long a0, .int a1]) (vp_Sl (fun z => z = r)) 0 0 (fun _ => False) := by
  refine Met.ofW (cc := b_C_pointAt) (maxL := 9) (ret := (some .long)) (by decide) rfl ?_
  intro p e s m args below meth c s₁ B hml hv
  obtain ⟨rfl, hN⟩ := hv
  have hx := B.exec
  have hb := B.bytes
  have hr := B.returns
  have hts := atoms_spec (ws := Cond.code y_C_pointAt b_C_pointAt 9 (some .long) :: wa) B.pre
  have hw : ∀ w ∈ wa, w.before _ s = true := fun w h => hts w (List.mem_cons_of_mem _ h)
  have hown : s.vm.findClass R_C = some m.cls := findClass_of_methodNamed B.named
  have hlocks := B.notSynchronized
  have hl := lv_entry ([.long a0, .int a1]) (n := 9) (Nat.le_of_ble_eq_true rfl)
  rw [lg_entry_eq]
  generalize (lg_sl ([.long a0, .int a1]) ++ List.replicate (9 - (lg_sl ([.long a0, .int a1])).length) Slot.unset).toArray = ls at hl ⊢
  have hl : lv_has ls 9 [(0, .long a0), (2, .int a1)] := hl
  unfold f_C_pointAt at hF
  refine lv_lload_n hx hb d_C_pointAt_0 rfl (lv_at hl 0 rfl) ?_
  obtain ⟨r1, e_r1, hF⟩ := Option.bind_eq_some_iff.mp hF
  refine vp_callSi (va_runS (As := [.long a0]) (rest := []) ⟨hx, hb, hml, hown, hts⟩ (k_F_has l a0 r1 e_r1) (va_cwS 1 hts (ga_S ww_85 ww_86 ww_12 ww_87) rfl rfl rfl (by decide +kernel) ⟨by decide, by decide⟩) (pcs_pre hN) rfl rfl hl.1 rfl (lv_room (Nat.le_of_ble_eq_true rfl)) d_C_pointAt_1 ⟨Nat.zero_le _, Nat.zero_le _⟩).run (fun z9 hz9 => ?_)
  obtain rfl : r1 = z9 := hz9.symm
  refine lv_if_ne hx hb d_C_pointAt_4 (tgt := 9) (by decide) (fun h9 => ?_) (fun h9 => ?_)
  · have hF := (if_neg h9).symm.trans hF
    refine lv_lload_n hx hb d_C_pointAt_9 rfl (lv_at hl 0 rfl) ?_
    refine lv_lload_n hx hb d_C_pointAt_10 rfl (lv_at hl 0 rfl) ?_
    refine lv_lmul hx hb d_C_pointAt_11 ?_
    refine lv_ldc2 (v := 1073735023) hx hb hown (hw _ ww_89) d_C_pointAt_12 ?_
    refine lv_lrem hx hb d_C_pointAt_15 (by decide) ?_
    refine lv_lload_n hx hb d_C_pointAt_16 rfl (lv_at hl 0 rfl) ?_
    refine lv_lmul hx hb d_C_pointAt_17 ?_
    refine lv_ldc2 (v := 7) hx hb hown (hw _ ww_90) d_C_pointAt_18 ?_
    refine lv_ladd hx hb d_C_pointAt_21 ?_
    refine lv_ldc2 (v := 1073735023) hx hb hown (hw _ ww_89) d_C_pointAt_22 ?_
    refine lv_lrem hx hb d_C_pointAt_25 (by decide) ?_
    obtain ⟨v2, e_v2, hF⟩ := Option.bind_eq_some_iff.mp hF
    refine nm_l (Option.some.inj e_v2) ?_
    refine lv_lstore_n hx hb d_C_pointAt_26 rfl hl (by decide) (lv' := [(3, .long v2), (0, .long a0), (2, .int a1)]) rfl (fun ls hl => ?_)
    refine lv_lload_n hx hb d_C_pointAt_27 rfl (lv_at hl 0 rfl) ?_
    obtain ⟨r3, e_r3, hF⟩ := Option.bind_eq_some_iff.mp hF
    refine vp_callSl (va_runS (As := [.long v2]) (rest := []) ⟨hx, hb, hml, hown, hts⟩ (k_F_rootIfAny l v2 r3 e_r3) (va_cwS 1 hts (ga_S ww_91 ww_92 ww_12 ww_93) rfl rfl rfl (by decide +kernel) ⟨by decide, by decide⟩) (pcs_pre hN) rfl rfl hl.1 rfl (lv_room (Nat.le_of_ble_eq_true rfl)) d_C_pointAt_28 ⟨Nat.zero_le _, Nat.zero_le _⟩).run (fun z9 hz9 => ?_)
    obtain rfl : r3 = z9 := hz9.symm
    refine lv_lstore hx hb d_C_pointAt_31 hl (by decide) (lv' := [(5, .long r3), (3, .long v2), (0, .long a0), (2, .int a1)]) rfl (fun ls hl => ?_)
    refine lv_lload hx hb d_C_pointAt_33 (lv_at hl 0 rfl) ?_
    refine lv_lload hx hb d_C_pointAt_35 (lv_at hl 0 rfl) ?_
    refine lv_lmul hx hb d_C_pointAt_37 ?_
    refine lv_ldc2 (v := 1073735023) hx hb hown (hw _ ww_89) d_C_pointAt_38 ?_
    refine lv_lrem hx hb d_C_pointAt_41 (by decide) ?_
    refine lv_lload_n hx hb d_C_pointAt_42 rfl (lv_at hl 1 rfl) ?_
    refine W.lcmp hx hb d_C_pointAt_43 ?_
    refine lv_if_eq hx hb d_C_pointAt_44 (tgt := 49) (by decide) (fun h9 => ?_) (fun h9 => ?_)
    · have hF := (if_pos h9).symm.trans hF
      refine lv_lload_n hx hb d_C_pointAt_49 rfl (lv_at hl 2 rfl) ?_
      refine lv_ldc2 (v := 4294967296) hx hb hown (hw _ ww_95) d_C_pointAt_50 ?_
      refine lv_lmul hx hb d_C_pointAt_53 ?_
      refine lv_lload hx hb d_C_pointAt_54 (lv_at hl 0 rfl) ?_
      refine lv_ladd hx hb d_C_pointAt_56 ?_
      obtain ⟨v4, e_v4, hF⟩ := Option.bind_eq_some_iff.mp hF
      refine nm_l (Option.some.inj e_v4) ?_
      refine lv_lstore hx hb d_C_pointAt_57 hl (by decide) (lv' := [(7, .long v4), (5, .long r3), (3, .long v2), (0, .long a0), (2, .int a1)]) rfl (fun ls hl => ?_)
      refine lv_lload hx hb d_C_pointAt_59 (lv_at hl 0 rfl) ?_
      obtain ⟨r5, e_r5, hF⟩ := Option.bind_eq_some_iff.mp hF
      refine vp_callSi (va_runS (As := [.long v4]) (rest := []) ⟨hx, hb, hml, hown, hts⟩ (k_C_isOdd l v4 r5 e_r5) (va_cwS 1 hts (ga_S ww_96 ww_97 ww_11 ww_98) rfl rfl rfl (by decide +kernel) ⟨by decide, by decide⟩) (pcs_pre hN) rfl rfl hl.1 rfl (lv_room (Nat.le_of_ble_eq_true rfl)) d_C_pointAt_61 ⟨Nat.zero_le _, Nat.zero_le _⟩).run (fun z9 hz9 => ?_)
      obtain rfl : r5 = z9 := hz9.symm
      refine lv_iload_n hx hb d_C_pointAt_64 rfl (lv_at hl 4 rfl) ?_
      obtain ⟨j6, q8, hF⟩ := Option.bind_eq_some_iff.mp hF
      have k7 : ∀ (ls : Array Slot), lv_has ls 9 [] → W p l e rm_C_pointAt s m ([Value.long a0, Value.int a1] : List Value).toArray below meth c s.heap [] 0 0 (MQ below (vp_Sl (fun z => z = r)) ([Value.long a0, Value.int a1] : List Value).toArray s 0 0 (fun _ => False)) (F0 m 78 ls [.long j6]) := by
        intro ls hl
        obtain rfl := Option.some.inj hF
        exact W.lret hx hb hr (fun t ht hW => ⟨_, rfl, rfl, ht⟩) (fun _ h => nomatch h) d_C_pointAt_78
      clear hF
      have hF := q8
      refine lv_icmp_ne hx hb d_C_pointAt_65 (tgt := 73) (by decide) (fun h9 => ?_) (fun h9 => ?_)
      · have hF := (if_neg h9).symm.trans hF
        refine lv_lload hx hb d_C_pointAt_73 (lv_at hl 0 rfl) ?_
        obtain ⟨r10, e_r10, hF⟩ := Option.bind_eq_some_iff.mp hF
        refine vp_callSl (va_runS (As := [.long v4]) (rest := []) ⟨hx, hb, hml, hown, hts⟩ (k_C_negative l v4 r10 e_r10) (va_cwS 1 hts (ga_S ww_100 ww_101 ww_11 ww_102) rfl rfl rfl (by decide +kernel) ⟨by decide, by decide⟩) (pcs_pre hN) rfl rfl hl.1 rfl (lv_room (Nat.le_of_ble_eq_true rfl)) d_C_pointAt_75 ⟨Nat.zero_le _, Nat.zero_le _⟩).run (fun z9 hz9 => ?_)
        obtain rfl : r10 = z9 := hz9.symm
        obtain rfl := Option.some.inj hF
        exact k7 ls (lv_sub hl [] rfl)
      · have hF := (if_pos h9).symm.trans hF
        refine lv_lload hx hb d_C_pointAt_68 (lv_at hl 0 rfl) ?_
        refine lv_goto hx hb d_C_pointAt_70 (tgt := 78) (by decide) ?_
        obtain rfl := Option.some.inj hF
        exact k7 ls (lv_sub hl [] rfl)
    · have hF := (if_neg h9).symm.trans hF
      refine lv_lconst (v := 0) hx hb d_C_pointAt_47 (by decide) ?_
      obtain rfl := Option.some.inj hF
      exact W.lret hx hb hr (fun t ht hW => ⟨_, rfl, rfl, ht⟩) (fun _ h => nomatch h) d_C_pointAt_48
  · have hF := (if_pos h9).symm.trans hF
    refine lv_lconst (v := 0) hx hb d_C_pointAt_7 (by decide) ?_
    obtain rfl := Option.some.inj hF
    exact W.lret hx hb hr (fun t ht hW => ⟨_, rfl, rfl, ht⟩) (fun _ h => nomatch h) d_C_pointAt_8
def f_C_toCode (a0 : Int64) : Option Int64 := Option.bind (if (lg_cmp a0 0) = 0 then (some (0) : Option (Int64)) else (Option.bind (f_C_xOf a0) (fun r5 => some (((2 + (a0 - a0 / 2 * 2)) * 4294967296) + r5)))) (fun j1 => some (j1))
abbrev rm_C_toCode : Room := { frames := 1, cells := 0, slots := 0, locals := 21 }
set_option maxHeartbeats 4000000 in
set_option maxRecDepth 100000 in
theorem k_C_toCode (l : Launch) (a0 : Int64) (r : Int64) (hF : f_C_toCode a0 = some r) : Met l y_C_toCode (Cond.code y_C_toCode b_C_toCode 2 (some .long) :: wa) rm_C_toCode (pcs [.long a0]) (vp_Sl (fun z => z = r)) 0 0 (fun _ => False) := by
  refine Met.ofW (cc := b_C_toCode) (maxL := 2) (ret := (some .long)) (by decide) rfl ?_
  intro p e s m args below meth c s₁ B hml hv
  obtain ⟨rfl, hN⟩ := hv
  have hx := B.exec
  have hb := B.bytes
  have hr := B.returns
  have hts := atoms_spec (ws := Cond.code y_C_toCode b_C_toCode 2 (some .long) :: wa) B.pre
  have hw : ∀ w ∈ wa, w.before _ s = true := fun w h => hts w (List.mem_cons_of_mem _ h)
  have hown : s.vm.findClass R_C = some m.cls := findClass_of_methodNamed B.named
  have hlocks := B.notSynchronized
  have hl := lv_entry ([.long a0]) (n := 2) (Nat.le_of_ble_eq_true rfl)
  rw [lg_entry_eq]
  generalize (lg_sl ([.long a0]) ++ List.replicate (2 - (lg_sl ([.long a0])).length) Slot.unset).toArray = ls at hl ⊢
  have hl : lv_has ls 2 [(0, .long a0)] := hl
  unfold f_C_toCode at hF
  refine lv_lload_n hx hb d_C_toCode_0 rfl (lv_at hl 0 rfl) ?_
  refine lv_lconst (v := 0) hx hb d_C_toCode_1 (by decide) ?_
  refine W.lcmp hx hb d_C_toCode_2 ?_
  obtain ⟨j1, q3, hF⟩ := Option.bind_eq_some_iff.mp hF
  have k2 : ∀ (ls : Array Slot), lv_has ls 2 [] → W p l e rm_C_toCode s m ([Value.long a0] : List Value).toArray below meth c s.heap [] 0 0 (MQ below (vp_Sl (fun z => z = r)) ([Value.long a0] : List Value).toArray s 0 0 (fun _ => False)) (F0 m 28 ls [.long j1]) := by
    intro ls hl
    obtain rfl := Option.some.inj hF
    exact W.lret hx hb hr (fun t ht hW => ⟨_, rfl, rfl, ht⟩) (fun _ h => nomatch h) d_C_toCode_28
  clear hF
  have hF := q3
  refine lv_if_ne hx hb d_C_toCode_3 (tgt := 10) (by decide) (fun h9 => ?_) (fun h9 => ?_)
  · have hF := (if_neg h9).symm.trans hF
    refine lv_ldc2 (v := 2) hx hb hown (hw _ ww_99) d_C_toCode_10 ?_
    refine lv_lload_n hx hb d_C_toCode_13 rfl (lv_at hl 0 rfl) ?_
    refine lv_ldc2 (v := 2) hx hb hown (hw _ ww_99) d_C_toCode_14 ?_
    refine lv_lrem hx hb d_C_toCode_17 (by decide) ?_
    refine lv_ladd hx hb d_C_toCode_18 ?_
    refine lv_ldc2 (v := 4294967296) hx hb hown (hw _ ww_95) d_C_toCode_19 ?_
    refine lv_lmul hx hb d_C_toCode_22 ?_
    refine lv_lload_n hx hb d_C_toCode_23 rfl (lv_at hl 0 rfl) ?_
    obtain ⟨r5, e_r5, hF⟩ := Option.bind_eq_some_iff.mp hF
    refine vp_callSl (va_runS (As := [.long a0]) (rest := [.long ((2 + (a0 - a0 / 2 * 2)) * 4294967296)]) ⟨hx, hb, hml, hown, hts⟩ (k_C_xOf l a0 r5 e_r5) (va_cwS 1 hts (ga_S ww_103 ww_104 ww_11 ww_105) rfl rfl rfl (by decide +kernel) ⟨by decide, by decide⟩) (pcs_pre hN) rfl rfl hl.1 rfl (lv_room (Nat.le_of_ble_eq_true rfl)) d_C_toCode_24 ⟨Nat.zero_le _, Nat.zero_le _⟩).run (fun z9 hz9 => ?_)
    obtain rfl : r5 = z9 := hz9.symm
    refine lv_ladd hx hb d_C_toCode_27 ?_
    obtain rfl := Option.some.inj hF
    exact k2 ls (lv_sub hl [] rfl)
  · have hF := (if_pos h9).symm.trans hF
    refine lv_lconst (v := 0) hx hb d_C_toCode_6 (by decide) ?_
    refine lv_goto hx hb d_C_toCode_7 (tgt := 28) (by decide) ?_
    obtain rfl := Option.some.inj hF
    exact k2 ls (lv_sub hl [] rfl)
def f_C_fromCode (a0 : Int64) : Option Int64 := Option.bind (some ((Int64.toUInt64 a0 >>> ((Int32.toInt64 32).toUInt64 &&& Int64.toUInt64 63)).toInt64)) (fun v1 => Option.bind (if (lg_cmp v1 2) = 0 then (Option.bind (if (lg_cmp v1 3) = 0 then (some (1) : Option (Int32)) else (some (0))) (fun j6 => Option.bind (f_C_pointAt (a0 - a0 / 4294967296 * 4294967296) j6) (fun r10 => some (r10))) : Option (Int64)) else (if (lg_cmp v1 3) = 0 then (Option.bind (if (lg_cmp v1 3) = 0 then (some (1) : Option (Int32)) else (some (0))) (fun j11 => Option.bind (f_C_pointAt (a0 - a0 / 4294967296 * 4294967296) j11) (fun r15 => some (r15)))) else (some (0)))) (fun j2 => some (j2)))
abbrev rm_C_fromCode : Room := { frames := 3, cells := 0, slots := 0, locals := 70 }
set_option maxHeartbeats 4000000 in
set_option maxRecDepth 100000 in
theorem k_C_fromCode (l : Launch) (a0 : Int64) (r : Int64) (hF : f_C_fromCode a0 = some r) : Met l y_C_fromCode (Cond.code y_C_fromCode b_C_fromCode 4 (some .long) :: wa) rm_C_fromCode (pcs [.long a0]) (vp_Sl (fun z => z = r)) 0 0 (fun _ => False) := by
  refine Met.ofW (cc := b_C_fromCode) (maxL := 4) (ret := (some .long)) (by decide) rfl ?_
  intro p e s m args below meth c s₁ B hml hv
  obtain ⟨rfl, hN⟩ := hv
  have hx := B.exec
  have hb := B.bytes
  have hr := B.returns
  have hts := atoms_spec (ws := Cond.code y_C_fromCode b_C_fromCode 4 (some .long) :: wa) B.pre
  have hw : ∀ w ∈ wa, w.before _ s = true := fun w h => hts w (List.mem_cons_of_mem _ h)
  have hown : s.vm.findClass R_C = some m.cls := findClass_of_methodNamed B.named
  have hlocks := B.notSynchronized
  have hl := lv_entry ([.long a0]) (n := 4) (Nat.le_of_ble_eq_true rfl)
  rw [lg_entry_eq]
  generalize (lg_sl ([.long a0]) ++ List.replicate (4 - (lg_sl ([.long a0])).length) Slot.unset).toArray = ls at hl ⊢
  have hl : lv_has ls 4 [(0, .long a0)] := hl
  unfold f_C_fromCode at hF
  refine lv_lload_n hx hb d_C_fromCode_0 rfl (lv_at hl 0 rfl) ?_
  refine lv_bipush (v := 32) hx hb d_C_fromCode_1 (by decide) ?_
  refine lv_lushr (v := (Int64.toUInt64 a0 >>> ((Int32.toInt64 32).toUInt64 &&& Int64.toUInt64 63)).toInt64) hx hb d_C_fromCode_3 rfl ?_
  obtain ⟨v1, e_v1, hF⟩ := Option.bind_eq_some_iff.mp hF
  refine nm_l (Option.some.inj e_v1) ?_
  refine lv_lstore_n hx hb d_C_fromCode_4 rfl hl (by decide) (lv' := [(2, .long v1), (0, .long a0)]) rfl (fun ls hl => ?_)
  refine lv_lload_n hx hb d_C_fromCode_5 rfl (lv_at hl 0 rfl) ?_
  refine lv_ldc2 (v := 2) hx hb hown (hw _ ww_99) d_C_fromCode_6 ?_
  refine W.lcmp hx hb d_C_fromCode_9 ?_
  obtain ⟨j2, q4, hF⟩ := Option.bind_eq_some_iff.mp hF
  have k3 : ∀ (ls : Array Slot), lv_has ls 4 [] → W p l e rm_C_fromCode s m ([Value.long a0] : List Value).toArray below meth c s.heap [] 0 0 (MQ below (vp_Sl (fun z => z = r)) ([Value.long a0] : List Value).toArray s 0 0 (fun _ => False)) (F0 m 46 ls [.long j2]) := by
    intro ls hl
    obtain rfl := Option.some.inj hF
    exact W.lret hx hb hr (fun t ht hW => ⟨_, rfl, rfl, ht⟩) (fun _ h => nomatch h) d_C_fromCode_46
  clear hF
  have hF := q4
  refine lv_if_eq hx hb d_C_fromCode_10 (tgt := 21) (by decide) (fun h9 => ?_) (fun h9 => ?_)
  · have hF := (if_pos h9).symm.trans hF
    refine lv_lload_n hx hb d_C_fromCode_21 rfl (lv_at hl 1 rfl) ?_
    refine lv_ldc2 (v := 4294967296) hx hb hown (hw _ ww_95) d_C_fromCode_22 ?_
    refine lv_lrem hx hb d_C_fromCode_25 (by decide) ?_
    refine lv_lload_n hx hb d_C_fromCode_26 rfl (lv_at hl 0 rfl) ?_
    refine lv_ldc2 (v := 3) hx hb hown (hw _ ww_157) d_C_fromCode_27 ?_
    refine W.lcmp hx hb d_C_fromCode_30 ?_
    obtain ⟨j6, q8, hF⟩ := Option.bind_eq_some_iff.mp hF
    have z_j6 : j6 = 0 ∨ j6 = 1 := by
      have h := q8
      (repeat' (split at h)) <;> (obtain rfl := Option.some.inj h; first | exact Or.inl rfl | exact Or.inr rfl)
    have k7 : ∀ (ls : Array Slot), lv_has ls 4 [] → W p l e rm_C_fromCode s m ([Value.long a0] : List Value).toArray below meth c s.heap [] 0 0 (MQ below (vp_Sl (fun z => z = r)) ([Value.long a0] : List Value).toArray s 0 0 (fun _ => False)) (F0 m 39 ls [.int j6, .long (a0 - a0 / 4294967296 * 4294967296)]) := by
      intro ls hl
      obtain ⟨r10, e_r10, hF⟩ := Option.bind_eq_some_iff.mp hF
      refine vp_callSl (va_runS (As := [.long (a0 - a0 / 4294967296 * 4294967296), .int j6]) (rest := []) ⟨hx, hb, hml, hown, hts⟩ (k_C_pointAt l (a0 - a0 / 4294967296 * 4294967296) j6 r10 e_r10) (va_cwS 2 hts (ga_S ww_330 ww_83 ww_11 ww_84) rfl rfl rfl (by decide +kernel) ⟨by decide, by decide⟩) (pcs_pre hN) rfl rfl hl.1 rfl (lv_room (Nat.le_of_ble_eq_true rfl)) d_C_fromCode_39 ⟨Nat.zero_le _, Nat.zero_le _⟩).run (fun z9 hz9 => ?_)
      obtain rfl : r10 = z9 := hz9.symm
      refine lv_goto hx hb d_C_fromCode_42 (tgt := 46) (by decide) ?_
      obtain rfl := Option.some.inj hF
      exact k3 ls (lv_sub hl [] rfl)
    clear hF
    have hF := q8
    refine lv_if_ne hx hb d_C_fromCode_31 (tgt := 38) (by decide) (fun h9 => ?_) (fun h9 => ?_)
    · have hF := (if_neg h9).symm.trans hF
      refine lv_iconst (v := 0) hx hb d_C_fromCode_38 (by decide) ?_
      obtain rfl := Option.some.inj hF
      exact k7 ls (lv_sub hl [] rfl)
    · have hF := (if_pos h9).symm.trans hF
      refine lv_iconst (v := 1) hx hb d_C_fromCode_34 (by decide) ?_
      refine lv_goto hx hb d_C_fromCode_35 (tgt := 39) (by decide) ?_
      obtain rfl := Option.some.inj hF
      exact k7 ls (lv_sub hl [] rfl)
  · have hF := (if_neg h9).symm.trans hF
    refine lv_lload_n hx hb d_C_fromCode_13 rfl (lv_at hl 0 rfl) ?_
    refine lv_ldc2 (v := 3) hx hb hown (hw _ ww_157) d_C_fromCode_14 ?_
    refine W.lcmp hx hb d_C_fromCode_17 ?_
    refine lv_if_ne hx hb d_C_fromCode_18 (tgt := 45) (by decide) (fun h9 => ?_) (fun h9 => ?_)
    · have hF := (if_neg h9).symm.trans hF
      refine lv_lconst (v := 0) hx hb d_C_fromCode_45 (by decide) ?_
      obtain rfl := Option.some.inj hF
      exact k3 ls (lv_sub hl [] rfl)
    · have hF := (if_pos h9).symm.trans hF
      refine lv_lload_n hx hb d_C_fromCode_21 rfl (lv_at hl 1 rfl) ?_
      refine lv_ldc2 (v := 4294967296) hx hb hown (hw _ ww_95) d_C_fromCode_22 ?_
      refine lv_lrem hx hb d_C_fromCode_25 (by decide) ?_
      refine lv_lload_n hx hb d_C_fromCode_26 rfl (lv_at hl 0 rfl) ?_
      refine lv_ldc2 (v := 3) hx hb hown (hw _ ww_157) d_C_fromCode_27 ?_
      refine W.lcmp hx hb d_C_fromCode_30 ?_
      obtain ⟨j11, q13, hF⟩ := Option.bind_eq_some_iff.mp hF
      have z_j11 : j11 = 0 ∨ j11 = 1 := by
        have h := q13
        (repeat' (split at h)) <;> (obtain rfl := Option.some.inj h; first | exact Or.inl rfl | exact Or.inr rfl)
      have k12 : ∀ (ls : Array Slot), lv_has ls 4 [] → W p l e rm_C_fromCode s m ([Value.long a0] : List Value).toArray below meth c s.heap [] 0 0 (MQ below (vp_Sl (fun z => z = r)) ([Value.long a0] : List Value).toArray s 0 0 (fun _ => False)) (F0 m 39 ls [.int j11, .long (a0 - a0 / 4294967296 * 4294967296)]) := by
        intro ls hl
        obtain ⟨r15, e_r15, hF⟩ := Option.bind_eq_some_iff.mp hF
        refine vp_callSl (va_runS (As := [.long (a0 - a0 / 4294967296 * 4294967296), .int j11]) (rest := []) ⟨hx, hb, hml, hown, hts⟩ (k_C_pointAt l (a0 - a0 / 4294967296 * 4294967296) j11 r15 e_r15) (va_cwS 2 hts (ga_S ww_330 ww_83 ww_11 ww_84) rfl rfl rfl (by decide +kernel) ⟨by decide, by decide⟩) (pcs_pre hN) rfl rfl hl.1 rfl (lv_room (Nat.le_of_ble_eq_true rfl)) d_C_fromCode_39 ⟨Nat.zero_le _, Nat.zero_le _⟩).run (fun z9 hz9 => ?_)
        obtain rfl : r15 = z9 := hz9.symm
        refine lv_goto hx hb d_C_fromCode_42 (tgt := 46) (by decide) ?_
        obtain rfl := Option.some.inj hF
        exact k3 ls (lv_sub hl [] rfl)
      clear hF
      have hF := q13
      refine lv_if_ne hx hb d_C_fromCode_31 (tgt := 38) (by decide) (fun h9 => ?_) (fun h9 => ?_)
      · have hF := (if_neg h9).symm.trans hF
        refine lv_iconst (v := 0) hx hb d_C_fromCode_38 (by decide) ?_
        obtain rfl := Option.some.inj hF
        exact k12 ls (lv_sub hl [] rfl)
      · have hF := (if_pos h9).symm.trans hF
        refine lv_iconst (v := 1) hx hb d_C_fromCode_34 (by decide) ?_
        refine lv_goto hx hb d_C_fromCode_35 (tgt := 39) (by decide) ?_
        obtain rfl := Option.some.inj hF
        exact k12 ls (lv_sub hl [] rfl)
def f_C_sum (a0 : Int64) (a1 : Int64) : Option Int64 := if (lg_cmp a0 0) = 0 then (some (a1)) else (if (lg_cmp a1 0) = 0 then (some (a0)) else (Option.bind (f_C_xOf a0) (fun r1 => Option.bind (f_C_yOf a0) (fun r2 => Option.bind (f_C_xOf a1) (fun r3 => if (lg_cmp r1 r3) = 0 then (if (lg_cmp a0 a1) = 0 then (Option.bind (if (lg_cmp a0 a1) = 0 then (Option.bind (f_F_quotient ((3 * r1) * r1) (2 * r2)) (fun r21 => some (r21)) : Option (Int64)) else (Option.bind (f_C_yOf a1) (fun r19 => Option.bind (f_F_quotient (r19 - r2) (r3 - r1)) (fun r20 => some (r20))))) (fun j13 => Option.bind (f_F_reduced (((j13 * j13) - r1) - r3)) (fun r17 => Option.bind (f_F_reduced ((j13 * (r1 - r17)) - r2)) (fun r18 => some ((r17 * 4294967296) + r18))))) else (some (0))) else (Option.bind (if (lg_cmp a0 a1) = 0 then (Option.bind (f_F_quotient ((3 * r1) * r1) (2 * r2)) (fun r12 => some (r12)) : Option (Int64)) else (Option.bind (f_C_yOf a1) (fun r10 => Option.bind (f_F_quotient (r10 - r2) (r3 - r1)) (fun r11 => some (r11))))) (fun j4 => Option.bind (f_F_reduced (((j4 * j4) - r1) - r3)) (fun r8 => Option.bind (f_F_reduced ((j4 * (r1 - r8)) - r2)) (fun r9 => some ((r8 * 4294967296) + r9))))))))))
abbrev rm_C_sum : Room := { frames := 2, cells := 0, slots := 0, locals := 61 }
set_option maxHeartbeats 4000000 in
set_option maxRecDepth 100000 in
theorem k_C_sum (l : Launch) (a0 : Int64) (a1 : Int64) (r : Int64) (hF : f_C_sum a0 a1 = some r) : Met l y_C_sum (Cond.code y_C_sum b_C_sum 14 (some .long) :: wa) rm_C_sum (pcs [.long a0, .long a1]) (vp_Sl (fun z => z = r)) 0 0 (fun _ => False) := by
  refine Met.ofW (cc := b_C_sum) (maxL := 14) (ret := (some .long)) (by decide) rfl ?_
  intro p e s m args below meth c s₁ B hml hv
  obtain ⟨rfl, hN⟩ := hv
  have hx := B.exec
  have hb := B.bytes
  have hr := B.returns
  have hts := atoms_spec (ws := Cond.code y_C_sum b_C_sum 14 (some .long) :: wa) B.pre
  have hw : ∀ w ∈ wa, w.before _ s = true := fun w h => hts w (List.mem_cons_of_mem _ h)
  have hown : s.vm.findClass R_C = some m.cls := findClass_of_methodNamed B.named
  have hlocks := B.notSynchronized
  have hl := lv_entry ([.long a0, .long a1]) (n := 14) (Nat.le_of_ble_eq_true rfl)
  rw [lg_entry_eq]
  generalize (lg_sl ([.long a0, .long a1]) ++ List.replicate (14 - (lg_sl ([.long a0, .long a1])).length) Slot.unset).toArray = ls at hl ⊢
  have hl : lv_has ls 14 [(0, .long a0), (2, .long a1)] := hl
  unfold f_C_sum at hF
  refine lv_lload_n hx hb d_C_sum_0 rfl (lv_at hl 0 rfl) ?_
  refine lv_lconst (v := 0) hx hb d_C_sum_1 (by decide) ?_
  refine W.lcmp hx hb d_C_sum_2 ?_
  refine lv_if_ne hx hb d_C_sum_3 (tgt := 8) (by decide) (fun h9 => ?_) (fun h9 => ?_)
  · have hF := (if_neg h9).symm.trans hF
    refine lv_lload_n hx hb d_C_sum_8 rfl (lv_at hl 1 rfl) ?_
    refine lv_lconst (v := 0) hx hb d_C_sum_9 (by decide) ?_
    refine W.lcmp hx hb d_C_sum_10 ?_
    refine lv_if_ne hx hb d_C_sum_11 (tgt := 16) (by decide) (fun h9 => ?_) (fun h9 => ?_)
    · have hF := (if_neg h9).symm.trans hF
      refine lv_lload_n hx hb d_C_sum_16 rfl (lv_at hl 0 rfl) ?_
      obtain ⟨r1, e_r1, hF⟩ := Option.bind_eq_some_iff.mp hF
      refine vp_callSl (va_runS (As := [.long a0]) (rest := []) ⟨hx, hb, hml, hown, hts⟩ (k_C_xOf l a0 r1 e_r1) (va_cwS 1 hts (ga_S ww_103 ww_104 ww_11 ww_105) rfl rfl rfl (by decide +kernel) ⟨by decide, by decide⟩) (pcs_pre hN) rfl rfl hl.1 rfl (lv_room (Nat.le_of_ble_eq_true rfl)) d_C_sum_17 ⟨Nat.zero_le _, Nat.zero_le _⟩).run (fun z9 hz9 => ?_)
      obtain rfl : r1 = z9 := hz9.symm
      refine lv_lstore hx hb d_C_sum_20 hl (by decide) (lv' := [(4, .long r1), (0, .long a0), (2, .long a1)]) rfl (fun ls hl => ?_)
      refine lv_lload_n hx hb d_C_sum_22 rfl (lv_at hl 1 rfl) ?_
      obtain ⟨r2, e_r2, hF⟩ := Option.bind_eq_some_iff.mp hF
      refine vp_callSl (va_runS (As := [.long a0]) (rest := []) ⟨hx, hb, hml, hown, hts⟩ (k_C_yOf l a0 r2 e_r2) (va_cwS 1 hts (ga_S ww_106 ww_107 ww_11 ww_108) rfl rfl rfl (by decide +kernel) ⟨by decide, by decide⟩) (pcs_pre hN) rfl rfl hl.1 rfl (lv_room (Nat.le_of_ble_eq_true rfl)) d_C_sum_23 ⟨Nat.zero_le _, Nat.zero_le _⟩).run (fun z9 hz9 => ?_)
      obtain rfl : r2 = z9 := hz9.symm
      refine lv_lstore hx hb d_C_sum_26 hl (by decide) (lv' := [(6, .long r2), (4, .long r1), (0, .long a0), (2, .long a1)]) rfl (fun ls hl => ?_)
      refine lv_lload_n hx hb d_C_sum_28 rfl (lv_at hl 3 rfl) ?_
      obtain ⟨r3, e_r3, hF⟩ := Option.bind_eq_some_iff.mp hF
      refine vp_callSl (va_runS (As := [.long a1]) (rest := []) ⟨hx, hb, hml, hown, hts⟩ (k_C_xOf l a1 r3 e_r3) (va_cwS 1 hts (ga_S ww_103 ww_104 ww_11 ww_105) rfl rfl rfl (by decide +kernel) ⟨by decide, by decide⟩) (pcs_pre hN) rfl rfl hl.1 rfl (lv_room (Nat.le_of_ble_eq_true rfl)) d_C_sum_29 ⟨Nat.zero_le _, Nat.zero_le _⟩).run (fun z9 hz9 => ?_)
      obtain rfl : r3 = z9 := hz9.symm
      refine lv_lstore hx hb d_C_sum_32 hl (by decide) (lv' := [(8, .long r3), (6, .long r2), (4, .long r1), (0, .long a0), (2, .long a1)]) rfl (fun ls hl => ?_)
      refine lv_lload hx hb d_C_sum_34 (lv_at hl 2 rfl) ?_
      refine lv_lload hx hb d_C_sum_36 (lv_at hl 0 rfl) ?_
      refine W.lcmp hx hb d_C_sum_38 ?_
      refine lv_if_ne hx hb d_C_sum_39 (tgt := 50) (by decide) (fun h9 => ?_) (fun h9 => ?_)
      · have hF := (if_neg h9).symm.trans hF
        refine lv_lload_n hx hb d_C_sum_50 rfl (lv_at hl 3 rfl) ?_
        refine lv_lload_n hx hb d_C_sum_51 rfl (lv_at hl 4 rfl) ?_
        refine W.lcmp hx hb d_C_sum_52 ?_
        obtain ⟨j4, q6, hF⟩ := Option.bind_eq_some_iff.mp hF
        have k5 : ∀ (ls : Array Slot), lv_has ls 14 [(8, .long r3), (6, .long r2), (4, .long r1)] → W p l e rm_C_sum s m ([Value.long a0, Value.long a1] : List Value).toArray below meth c s.heap [] 0 0 (MQ below (vp_Sl (fun z => z = r)) ([Value.long a0, Value.long a1] : List Value).toArray s 0 0 (fun _ => False)) (F0 m 92 ls [.long j4]) := by
          intro ls hl
          refine lv_lstore hx hb d_C_sum_92 hl (by decide) (lv' := [(10, .long j4), (8, .long r3), (6, .long r2), (4, .long r1)]) rfl (fun ls hl => ?_)
          refine lv_lload hx hb d_C_sum_94 (lv_at hl 0 rfl) ?_
          refine lv_lload hx hb d_C_sum_96 (lv_at hl 0 rfl) ?_
          refine lv_lmul hx hb d_C_sum_98 ?_
          refine lv_lload hx hb d_C_sum_99 (lv_at hl 3 rfl) ?_
          refine lv_lsub hx hb d_C_sum_101 ?_
          refine lv_lload hx hb d_C_sum_102 (lv_at hl 1 rfl) ?_
          refine lv_lsub hx hb d_C_sum_104 ?_
          obtain ⟨r8, e_r8, hF⟩ := Option.bind_eq_some_iff.mp hF
          refine vp_callSl (va_runS (As := [.long (((j4 * j4) - r1) - r3)]) (rest := []) ⟨hx, hb, hml, hown, hts⟩ (k_F_reduced l (((j4 * j4) - r1) - r3) r8 e_r8) (va_cwS 1 hts (ga_S ww_167 ww_162 ww_12 ww_163) rfl rfl rfl (by decide +kernel) ⟨by decide, by decide⟩) (pcs_pre hN) rfl rfl hl.1 rfl (lv_room (Nat.le_of_ble_eq_true rfl)) d_C_sum_105 ⟨Nat.zero_le _, Nat.zero_le _⟩).run (fun z9 hz9 => ?_)
          obtain rfl : r8 = z9 := hz9.symm
          refine lv_lstore hx hb d_C_sum_108 hl (by decide) (lv' := [(12, .long r8), (10, .long j4), (8, .long r3), (6, .long r2), (4, .long r1)]) rfl (fun ls hl => ?_)
          refine lv_lload hx hb d_C_sum_110 (lv_at hl 0 rfl) ?_
          refine lv_ldc2 (v := 4294967296) hx hb hown (hw _ ww_95) d_C_sum_112 ?_
          refine lv_lmul hx hb d_C_sum_115 ?_
          refine lv_lload hx hb d_C_sum_116 (lv_at hl 1 rfl) ?_
          refine lv_lload hx hb d_C_sum_118 (lv_at hl 4 rfl) ?_
          refine lv_lload hx hb d_C_sum_120 (lv_at hl 0 rfl) ?_
          refine lv_lsub hx hb d_C_sum_122 ?_
          refine lv_lmul hx hb d_C_sum_123 ?_
          refine lv_lload hx hb d_C_sum_124 (lv_at hl 3 rfl) ?_
          refine lv_lsub hx hb d_C_sum_126 ?_
          obtain ⟨r9, e_r9, hF⟩ := Option.bind_eq_some_iff.mp hF
          refine vp_callSl (va_runS (As := [.long ((j4 * (r1 - r8)) - r2)]) (rest := [.long (r8 * 4294967296)]) ⟨hx, hb, hml, hown, hts⟩ (k_F_reduced l ((j4 * (r1 - r8)) - r2) r9 e_r9) (va_cwS 1 hts (ga_S ww_167 ww_162 ww_12 ww_163) rfl rfl rfl (by decide +kernel) ⟨by decide, by decide⟩) (pcs_pre hN) rfl rfl hl.1 rfl (lv_room (Nat.le_of_ble_eq_true rfl)) d_C_sum_127 ⟨Nat.zero_le _, Nat.zero_le _⟩).run (fun z9 hz9 => ?_)
          obtain rfl : r9 = z9 := hz9.symm
          refine lv_ladd hx hb d_C_sum_130 ?_
          obtain rfl := Option.some.inj hF
          exact W.lret hx hb hr (fun t ht hW => ⟨_, rfl, rfl, ht⟩) (fun _ h => nomatch h) d_C_sum_131
        clear hF
        have hF := q6
        refine lv_if_ne hx hb d_C_sum_53 (tgt := 77) (by decide) (fun h9 => ?_) (fun h9 => ?_)
        · have hF := (if_neg h9).symm.trans hF
          refine lv_lload_n hx hb d_C_sum_77 rfl (lv_at hl 4 rfl) ?_
          obtain ⟨r10, e_r10, hF⟩ := Option.bind_eq_some_iff.mp hF
          refine vp_callSl (va_runS (As := [.long a1]) (rest := []) ⟨hx, hb, hml, hown, hts⟩ (k_C_yOf l a1 r10 e_r10) (va_cwS 1 hts (ga_S ww_106 ww_107 ww_11 ww_108) rfl rfl rfl (by decide +kernel) ⟨by decide, by decide⟩) (pcs_pre hN) rfl rfl hl.1 rfl (lv_room (Nat.le_of_ble_eq_true rfl)) d_C_sum_78 ⟨Nat.zero_le _, Nat.zero_le _⟩).run (fun z9 hz9 => ?_)
          obtain rfl : r10 = z9 := hz9.symm
          refine lv_lload hx hb d_C_sum_81 (lv_at hl 1 rfl) ?_
          refine lv_lsub hx hb d_C_sum_83 ?_
          refine lv_lload hx hb d_C_sum_84 (lv_at hl 0 rfl) ?_
          refine lv_lload hx hb d_C_sum_86 (lv_at hl 2 rfl) ?_
          refine lv_lsub hx hb d_C_sum_88 ?_
          obtain ⟨r11, e_r11, hF⟩ := Option.bind_eq_some_iff.mp hF
          refine vp_callSl (va_runS (As := [.long (r10 - r2), .long (r3 - r1)]) (rest := []) ⟨hx, hb, hml, hown, hts⟩ (k_F_quotient l (r10 - r2) (r3 - r1) r11 e_r11) (va_cwS 2 hts (ga_S ww_158 ww_159 ww_12 ww_160) rfl rfl rfl (by decide +kernel) ⟨by decide, by decide⟩) (pcs_pre hN) rfl rfl hl.1 rfl (lv_room (Nat.le_of_ble_eq_true rfl)) d_C_sum_89 ⟨Nat.zero_le _, Nat.zero_le _⟩).run (fun z9 hz9 => ?_)
          obtain rfl : r11 = z9 := hz9.symm
          obtain rfl := Option.some.inj hF
          exact k5 ls (lv_sub hl [0, 1, 2] rfl)
        · have hF := (if_pos h9).symm.trans hF
          refine lv_ldc2 (v := 3) hx hb hown (hw _ ww_157) d_C_sum_56 ?_
          refine lv_lload hx hb d_C_sum_59 (lv_at hl 2 rfl) ?_
          refine lv_lmul hx hb d_C_sum_61 ?_
          refine lv_lload hx hb d_C_sum_62 (lv_at hl 2 rfl) ?_
          refine lv_lmul hx hb d_C_sum_64 ?_
          refine lv_ldc2 (v := 2) hx hb hown (hw _ ww_99) d_C_sum_65 ?_
          refine lv_lload hx hb d_C_sum_68 (lv_at hl 1 rfl) ?_
          refine lv_lmul hx hb d_C_sum_70 ?_
          obtain ⟨r12, e_r12, hF⟩ := Option.bind_eq_some_iff.mp hF
          refine vp_callSl (va_runS (As := [.long ((3 * r1) * r1), .long (2 * r2)]) (rest := []) ⟨hx, hb, hml, hown, hts⟩ (k_F_quotient l ((3 * r1) * r1) (2 * r2) r12 e_r12) (va_cwS 2 hts (ga_S ww_158 ww_159 ww_12 ww_160) rfl rfl rfl (by decide +kernel) ⟨by decide, by decide⟩) (pcs_pre hN) rfl rfl hl.1 rfl (lv_room (Nat.le_of_ble_eq_true rfl)) d_C_sum_71 ⟨Nat.zero_le _, Nat.zero_le _⟩).run (fun z9 hz9 => ?_)
          obtain rfl : r12 = z9 := hz9.symm
          refine lv_goto hx hb d_C_sum_74 (tgt := 92) (by decide) ?_
          obtain rfl := Option.some.inj hF
          exact k5 ls (lv_sub hl [0, 1, 2] rfl)
      · have hF := (if_pos h9).symm.trans hF
        refine lv_lload_n hx hb d_C_sum_42 rfl (lv_at hl 3 rfl) ?_
        refine lv_lload_n hx hb d_C_sum_43 rfl (lv_at hl 4 rfl) ?_
        refine W.lcmp hx hb d_C_sum_44 ?_
        refine lv_if_eq hx hb d_C_sum_45 (tgt := 50) (by decide) (fun h9 => ?_) (fun h9 => ?_)
        · have hF := (if_pos h9).symm.trans hF
          refine lv_lload_n hx hb d_C_sum_50 rfl (lv_at hl 3 rfl) ?_
          refine lv_lload_n hx hb d_C_sum_51 rfl (lv_at hl 4 rfl) ?_
          refine W.lcmp hx hb d_C_sum_52 ?_
          obtain ⟨j13, q15, hF⟩ := Option.bind_eq_some_iff.mp hF
          have k14 : ∀ (ls : Array Slot), lv_has ls 14 [(8, .long r3), (6, .long r2), (4, .long r1)] → W p l e rm_C_sum s m ([Value.long a0, Value.long a1] : List Value).toArray below meth c s.heap [] 0 0 (MQ below (vp_Sl (fun z => z = r)) ([Value.long a0, Value.long a1] : List Value).toArray s 0 0 (fun _ => False)) (F0 m 92 ls [.long j13]) := by
            intro ls hl
            refine lv_lstore hx hb d_C_sum_92 hl (by decide) (lv' := [(10, .long j13), (8, .long r3), (6, .long r2), (4, .long r1)]) rfl (fun ls hl => ?_)
            refine lv_lload hx hb d_C_sum_94 (lv_at hl 0 rfl) ?_
            refine lv_lload hx hb d_C_sum_96 (lv_at hl 0 rfl) ?_
            refine lv_lmul hx hb d_C_sum_98 ?_
            refine lv_lload hx hb d_C_sum_99 (lv_at hl 3 rfl) ?_
            refine lv_lsub hx hb d_C_sum_101 ?_
            refine lv_lload hx hb d_C_sum_102 (lv_at hl 1 rfl) ?_
            refine lv_lsub hx hb d_C_sum_104 ?_
            obtain ⟨r17, e_r17, hF⟩ := Option.bind_eq_some_iff.mp hF
            refine vp_callSl (va_runS (As := [.long (((j13 * j13) - r1) - r3)]) (rest := []) ⟨hx, hb, hml, hown, hts⟩ (k_F_reduced l (((j13 * j13) - r1) - r3) r17 e_r17) (va_cwS 1 hts (ga_S ww_167 ww_162 ww_12 ww_163) rfl rfl rfl (by decide +kernel) ⟨by decide, by decide⟩) (pcs_pre hN) rfl rfl hl.1 rfl (lv_room (Nat.le_of_ble_eq_true rfl)) d_C_sum_105 ⟨Nat.zero_le _, Nat.zero_le _⟩).run (fun z9 hz9 => ?_)
            obtain rfl : r17 = z9 := hz9.symm
            refine lv_lstore hx hb d_C_sum_108 hl (by decide) (lv' := [(12, .long r17), (10, .long j13), (8, .long r3), (6, .long r2), (4, .long r1)]) rfl (fun ls hl => ?_)
            refine lv_lload hx hb d_C_sum_110 (lv_at hl 0 rfl) ?_
            refine lv_ldc2 (v := 4294967296) hx hb hown (hw _ ww_95) d_C_sum_112 ?_
            refine lv_lmul hx hb d_C_sum_115 ?_
            refine lv_lload hx hb d_C_sum_116 (lv_at hl 1 rfl) ?_
            refine lv_lload hx hb d_C_sum_118 (lv_at hl 4 rfl) ?_
            refine lv_lload hx hb d_C_sum_120 (lv_at hl 0 rfl) ?_
            refine lv_lsub hx hb d_C_sum_122 ?_
            refine lv_lmul hx hb d_C_sum_123 ?_
            refine lv_lload hx hb d_C_sum_124 (lv_at hl 3 rfl) ?_
            refine lv_lsub hx hb d_C_sum_126 ?_
            obtain ⟨r18, e_r18, hF⟩ := Option.bind_eq_some_iff.mp hF
            refine vp_callSl (va_runS (As := [.long ((j13 * (r1 - r17)) - r2)]) (rest := [.long (r17 * 4294967296)]) ⟨hx, hb, hml, hown, hts⟩ (k_F_reduced l ((j13 * (r1 - r17)) - r2) r18 e_r18) (va_cwS 1 hts (ga_S ww_167 ww_162 ww_12 ww_163) rfl rfl rfl (by decide +kernel) ⟨by decide, by decide⟩) (pcs_pre hN) rfl rfl hl.1 rfl (lv_room (Nat.le_of_ble_eq_true rfl)) d_C_sum_127 ⟨Nat.zero_le _, Nat.zero_le _⟩).run (fun z9 hz9 => ?_)
            obtain rfl : r18 = z9 := hz9.symm
            refine lv_ladd hx hb d_C_sum_130 ?_
            obtain rfl := Option.some.inj hF
            exact W.lret hx hb hr (fun t ht hW => ⟨_, rfl, rfl, ht⟩) (fun _ h => nomatch h) d_C_sum_131
          clear hF
          have hF := q15
          refine lv_if_ne hx hb d_C_sum_53 (tgt := 77) (by decide) (fun h9 => ?_) (fun h9 => ?_)
          · have hF := (if_neg h9).symm.trans hF
            refine lv_lload_n hx hb d_C_sum_77 rfl (lv_at hl 4 rfl) ?_
            obtain ⟨r19, e_r19, hF⟩ := Option.bind_eq_some_iff.mp hF
            refine vp_callSl (va_runS (As := [.long a1]) (rest := []) ⟨hx, hb, hml, hown, hts⟩ (k_C_yOf l a1 r19 e_r19) (va_cwS 1 hts (ga_S ww_106 ww_107 ww_11 ww_108) rfl rfl rfl (by decide +kernel) ⟨by decide, by decide⟩) (pcs_pre hN) rfl rfl hl.1 rfl (lv_room (Nat.le_of_ble_eq_true rfl)) d_C_sum_78 ⟨Nat.zero_le _, Nat.zero_le _⟩).run (fun z9 hz9 => ?_)
            obtain rfl : r19 = z9 := hz9.symm
            refine lv_lload hx hb d_C_sum_81 (lv_at hl 1 rfl) ?_
            refine lv_lsub hx hb d_C_sum_83 ?_
            refine lv_lload hx hb d_C_sum_84 (lv_at hl 0 rfl) ?_
            refine lv_lload hx hb d_C_sum_86 (lv_at hl 2 rfl) ?_
            refine lv_lsub hx hb d_C_sum_88 ?_
            obtain ⟨r20, e_r20, hF⟩ := Option.bind_eq_some_iff.mp hF
            refine vp_callSl (va_runS (As := [.long (r19 - r2), .long (r3 - r1)]) (rest := []) ⟨hx, hb, hml, hown, hts⟩ (k_F_quotient l (r19 - r2) (r3 - r1) r20 e_r20) (va_cwS 2 hts (ga_S ww_158 ww_159 ww_12 ww_160) rfl rfl rfl (by decide +kernel) ⟨by decide, by decide⟩) (pcs_pre hN) rfl rfl hl.1 rfl (lv_room (Nat.le_of_ble_eq_true rfl)) d_C_sum_89 ⟨Nat.zero_le _, Nat.zero_le _⟩).run (fun z9 hz9 => ?_)
            obtain rfl : r20 = z9 := hz9.symm
            obtain rfl := Option.some.inj hF
            exact k14 ls (lv_sub hl [0, 1, 2] rfl)
          · have hF := (if_pos h9).symm.trans hF
            refine lv_ldc2 (v := 3) hx hb hown (hw _ ww_157) d_C_sum_56 ?_
            refine lv_lload hx hb d_C_sum_59 (lv_at hl 2 rfl) ?_
            refine lv_lmul hx hb d_C_sum_61 ?_
            refine lv_lload hx hb d_C_sum_62 (lv_at hl 2 rfl) ?_
            refine lv_lmul hx hb d_C_sum_64 ?_
            refine lv_ldc2 (v := 2) hx hb hown (hw _ ww_99) d_C_sum_65 ?_
            refine lv_lload hx hb d_C_sum_68 (lv_at hl 1 rfl) ?_
            refine lv_lmul hx hb d_C_sum_70 ?_
            obtain ⟨r21, e_r21, hF⟩ := Option.bind_eq_some_iff.mp hF
            refine vp_callSl (va_runS (As := [.long ((3 * r1) * r1), .long (2 * r2)]) (rest := []) ⟨hx, hb, hml, hown, hts⟩ (k_F_quotient l ((3 * r1) * r1) (2 * r2) r21 e_r21) (va_cwS 2 hts (ga_S ww_158 ww_159 ww_12 ww_160) rfl rfl rfl (by decide +kernel) ⟨by decide, by decide⟩) (pcs_pre hN) rfl rfl hl.1 rfl (lv_room (Nat.le_of_ble_eq_true rfl)) d_C_sum_71 ⟨Nat.zero_le _, Nat.zero_le _⟩).run (fun z9 hz9 => ?_)
            obtain rfl : r21 = z9 := hz9.symm
            refine lv_goto hx hb d_C_sum_74 (tgt := 92) (by decide) ?_
            obtain rfl := Option.some.inj hF
            exact k14 ls (lv_sub hl [0, 1, 2] rfl)
        · have hF := (if_neg h9).symm.trans hF
          refine lv_lconst (v := 0) hx hb d_C_sum_48 (by decide) ?_
          obtain rfl := Option.some.inj hF
          exact W.lret hx hb hr (fun t ht hW => ⟨_, rfl, rfl, ht⟩) (fun _ h => nomatch h) d_C_sum_49
    · have hF := (if_pos h9).symm.trans hF
      refine lv_lload_n hx hb d_C_sum_14 rfl (lv_at hl 0 rfl) ?_
      obtain rfl := Option.some.inj hF
      exact W.lret hx hb hr (fun t ht hW => ⟨_, rfl, rfl, ht⟩) (fun _ h => nomatch h) d_C_sum_15
  · have hF := (if_pos h9).symm.trans hF
    refine lv_lload_n hx hb d_C_sum_6 rfl (lv_at hl 1 rfl) ?_
    obtain rfl := Option.some.inj hF
    exact W.lret hx hb hr (fun t ht hW => ⟨_, rfl, rfl, ht⟩) (fun _ h => nomatch h) d_C_sum_7
def f_C_multiple_7 (a0 : Int64) (a1 : Int64) : Nat → Int32 → Int64 → Option (Int32 × Int64)
  | 0, _, _ => none
  | n + 1, u1, u2 => if u1 < 0 then (some (u1, u2)) else (Option.bind (f_C_sum u2 u2) (fun r9 => Option.bind (if (lg_cmp (((Int64.toUInt64 a0 >>> ((Int32.toInt64 u1).toUInt64 &&& Int64.toUInt64 63)).toInt64) &&& 1) 1) = 0 then (Option.bind (f_C_sum r9 a1) (fun r15 => some (r15)) : Option (Int64)) else (some (r9))) (fun j10 => Option.bind (some (u1 + (-1))) (fun v14 => f_C_multiple_7 a0 a1 n v14 j10))))
def f_C_multiple (a0 : Int64) (a1 : Int64) : Option Int64 := Option.bind (f_C_multiple_7 a0 a1 64 29 0) (fun t17 => match t17 with | (o4, o5) => (some (o5)))
abbrev rm_C_multiple : Room := { frames := 3, cells := 0, slots := 0, locals := 94 }
set_option maxHeartbeats 4000000 in
set_option maxRecDepth 100000 in
theorem k_C_multiple (l : Launch) (a0 : Int64) (a1 : Int64) (r : Int64) (hF : f_C_multiple a0 a1 = some r) : Met l y_C_multiple (Cond.code y_C_multiple b_C_multiple 7 (some .long) :: wa) rm_C_multiple (pcs [.long a0, .long a1]) (vp_Sl (fun z => z = r)) 0 0 (fun _ => False) := by
  refine Met.ofW (cc := b_C_multiple) (maxL := 7) (ret := (some .long)) (by decide) rfl ?_
  intro p e s m args below meth c s₁ B hml hv
  obtain ⟨rfl, hN⟩ := hv
  have hx := B.exec
  have hb := B.bytes
  have hr := B.returns
  have hts := atoms_spec (ws := Cond.code y_C_multiple b_C_multiple 7 (some .long) :: wa) B.pre
  have hw : ∀ w ∈ wa, w.before _ s = true := fun w h => hts w (List.mem_cons_of_mem _ h)
  have hown : s.vm.findClass R_C = some m.cls := findClass_of_methodNamed B.named
  have hlocks := B.notSynchronized
  have hl := lv_entry ([.long a0, .long a1]) (n := 7) (Nat.le_of_ble_eq_true rfl)
  rw [lg_entry_eq]
  generalize (lg_sl ([.long a0, .long a1]) ++ List.replicate (7 - (lg_sl ([.long a0, .long a1])).length) Slot.unset).toArray = ls at hl ⊢
  have hl : lv_has ls 7 [(0, .long a0), (2, .long a1)] := hl
  unfold f_C_multiple at hF
  refine lv_lconst (v := 0) hx hb d_C_multiple_0 (by decide) ?_
  refine lv_lstore hx hb d_C_multiple_1 hl (by decide) (lv' := [(4, .long 0), (0, .long a0), (2, .long a1)]) rfl (fun ls hl => ?_)
  refine lv_bipush (v := 29) hx hb d_C_multiple_3 (by decide) ?_
  refine lv_istore hx hb d_C_multiple_5 hl (by decide) (lv' := [(6, .int 29), (4, .long 0), (0, .long a0), (2, .long a1)]) rfl (fun ls hl => ?_)
  obtain ⟨⟨o4, o5⟩, q16, hF⟩ := Option.bind_eq_some_iff.mp hF
  have k6 : ∀ (ls : Array Slot), lv_has ls 7 [(6, .int o4), (4, .long o5), (0, .long a0), (2, .long a1)] → W p l e rm_C_multiple s m ([Value.long a0, Value.long a1] : List Value).toArray below meth c s.heap [] 0 0 (MQ below (vp_Sl (fun z => z = r)) ([Value.long a0, Value.long a1] : List Value).toArray s 0 0 (fun _ => False)) (F0 m 46 ls []) := by
    intro ls hl
    refine lv_lload hx hb d_C_multiple_46 (lv_at hl 1 rfl) ?_
    obtain rfl := Option.some.inj hF
    exact W.lret hx hb hr (fun t ht hW => ⟨_, rfl, rfl, ht⟩) (fun _ h => nomatch h) d_C_multiple_48
  clear hF
  have k3 : ∀ (n : Nat) (u1 : Int32) (u2 : Int64) (ls : Array Slot), lv_has ls 7 [(6, .int u1), (4, .long u2), (0, .long a0), (2, .long a1)] → f_C_multiple_7 a0 a1 n u1 u2 = some (o4, o5) → W p l e rm_C_multiple s m ([Value.long a0, Value.long a1] : List Value).toArray below meth c s.heap [] 0 0 (MQ below (vp_Sl (fun z => z = r)) ([Value.long a0, Value.long a1] : List Value).toArray s 0 0 (fun _ => False)) (F0 m 7 ls []) := by
    intro n
    induction n with
    | zero => intro u1 u2 ls hl hF; cases hF
    | succ n ih =>
      intro u1 u2 ls hl hF
      rw [f_C_multiple_7] at hF
      refine lv_iload hx hb d_C_multiple_7 (lv_at hl 0 rfl) ?_
      refine lv_if_lt hx hb d_C_multiple_9 (tgt := 46) (by decide) (fun h9 => ?_) (fun h9 => ?_)
      · have hF := (if_pos h9).symm.trans hF
        cases Option.some.inj hF
        exact k6 ls (lv_sub hl [0, 1, 2, 3] rfl)
      · have hF := (if_neg h9).symm.trans hF
        refine lv_lload hx hb d_C_multiple_12 (lv_at hl 1 rfl) ?_
        refine lv_lload hx hb d_C_multiple_14 (lv_at hl 1 rfl) ?_
        obtain ⟨r9, e_r9, hF⟩ := Option.bind_eq_some_iff.mp hF
        refine vp_callSl (va_runS (As := [.long u2, .long u2]) (rest := []) ⟨hx, hb, hml, hown, hts⟩ (k_C_sum l u2 u2 r9 e_r9) (va_cwS 2 hts (ga_S ww_154 ww_155 ww_11 ww_156) rfl rfl rfl (by decide +kernel) ⟨by decide, by decide⟩) (pcs_pre hN) rfl rfl hl.1 rfl (lv_room (Nat.le_of_ble_eq_true rfl)) d_C_multiple_16 ⟨Nat.zero_le _, Nat.zero_le _⟩).run (fun z9 hz9 => ?_)
        obtain rfl : r9 = z9 := hz9.symm
        refine lv_lstore hx hb d_C_multiple_19 hl (by decide) (lv' := [(4, .long r9), (6, .int u1), (0, .long a0), (2, .long a1)]) rfl (fun ls hl => ?_)
        refine lv_lload_n hx hb d_C_multiple_21 rfl (lv_at hl 2 rfl) ?_
        refine lv_iload hx hb d_C_multiple_22 (lv_at hl 1 rfl) ?_
        refine lv_lushr (v := (Int64.toUInt64 a0 >>> ((Int32.toInt64 u1).toUInt64 &&& Int64.toUInt64 63)).toInt64) hx hb d_C_multiple_24 rfl ?_
        refine lv_lconst (v := 1) hx hb d_C_multiple_25 (by decide) ?_
        refine lv_land hx hb d_C_multiple_26 ?_
        refine lv_lconst (v := 1) hx hb d_C_multiple_27 (by decide) ?_
        refine W.lcmp hx hb d_C_multiple_28 ?_
        obtain ⟨j10, q12, hF⟩ := Option.bind_eq_some_iff.mp hF
        have k11 : ∀ (ls : Array Slot), lv_has ls 7 [(4, .long j10), (6, .int u1), (0, .long a0), (2, .long a1)] → W p l e rm_C_multiple s m ([Value.long a0, Value.long a1] : List Value).toArray below meth c s.heap [] 0 0 (MQ below (vp_Sl (fun z => z = r)) ([Value.long a0, Value.long a1] : List Value).toArray s 0 0 (fun _ => False)) (F0 m 40 ls []) := by
          intro ls hl
          obtain ⟨v14, e_v14, hF⟩ := Option.bind_eq_some_iff.mp hF
          refine lv_iinc hx hb d_C_multiple_40 hl (k := 1) (v := v14) rfl ((show _ = u1 + (-1) from rfl).trans (Option.some.inj e_v14)) (by decide) (lv' := [(6, .int v14), (4, .long j10), (0, .long a0), (2, .long a1)]) rfl (fun ls hl => ?_)
          refine lv_goto hx hb d_C_multiple_43 (tgt := 7) (by decide) ?_
          exact ih v14 j10 ls (lv_sub hl [0, 1, 2, 3] rfl) hF
        clear hF
        have hF := q12
        refine lv_if_ne hx hb d_C_multiple_29 (tgt := 40) (by decide) (fun h9 => ?_) (fun h9 => ?_)
        · have hF := (if_neg h9).symm.trans hF
          obtain rfl := Option.some.inj hF
          exact k11 ls (lv_sub hl [0, 1, 2, 3] rfl)
        · have hF := (if_pos h9).symm.trans hF
          refine lv_lload hx hb d_C_multiple_32 (lv_at hl 0 rfl) ?_
          refine lv_lload_n hx hb d_C_multiple_34 rfl (lv_at hl 3 rfl) ?_
          obtain ⟨r15, e_r15, hF⟩ := Option.bind_eq_some_iff.mp hF
          refine vp_callSl (va_runS (As := [.long r9, .long a1]) (rest := []) ⟨hx, hb, hml, hown, hts⟩ (k_C_sum l r9 a1 r15 e_r15) (va_cwS 2 hts (ga_S ww_154 ww_155 ww_11 ww_156) rfl rfl rfl (by decide +kernel) ⟨by decide, by decide⟩) (pcs_pre hN) rfl rfl hl.1 rfl (lv_room (Nat.le_of_ble_eq_true rfl)) d_C_multiple_35 ⟨Nat.zero_le _, Nat.zero_le _⟩).run (fun z9 hz9 => ?_)
          obtain rfl : r15 = z9 := hz9.symm
          refine lv_lstore hx hb d_C_multiple_38 hl (by decide) (lv' := [(4, .long r15), (6, .int u1), (0, .long a0), (2, .long a1)]) rfl (fun ls hl => ?_)
          obtain rfl := Option.some.inj hF
          exact k11 ls (lv_sub hl [0, 1, 2, 3] rfl)
  exact k3 64 29 0 ls (lv_sub hl [0, 1, 2, 3] rfl) q16
def f_C_sumOfMultiples (a0 : Int64) (a1 : Int64) (a2 : Int64) (a3 : Int64) : Option Int64 := Option.bind (f_C_multiple a0 a1) (fun r1 => Option.bind (f_C_multiple a2 a3) (fun r2 => Option.bind (f_C_sum r1 r2) (fun r3 => some (r3))))
abbrev rm_C_sumOfMultiples : Room := { frames := 4, cells := 0, slots := 0, locals := 120 }
set_option maxHeartbeats 4000000 in
set_option maxRecDepth 100000 in
theorem k_C_sumOfMultiples (l : Launch) (a0 : Int64) (a1 : Int64) (a2 : Int64) (a3 : Int64) (r : Int64) (hF : f_C_sumOfMultiples a0 a1 a2 a3 = some r) : Met l y_C_sumOfMultiples (Cond.code y_C_sumOfMultiples b_C_sumOfMultiples 8 (some .long) :: wa) rm_C_sumOfMultiples (pcs [.long a0, .long a1, .long a2, .long a3]) (vp_Sl (fun z => z = r)) 0 0 (fun _ => False) := by
  refine Met.ofW (cc := b_C_sumOfMultiples) (maxL := 8) (ret := (some .long)) (by decide) rfl ?_
  intro p e s m args below meth c s₁ B hml hv
  obtain ⟨rfl, hN⟩ := hv
  have hx := B.exec
  have hb := B.bytes
  have hr := B.returns
  have hts := atoms_spec (ws := Cond.code y_C_sumOfMultiples b_C_sumOfMultiples 8 (some .long) :: wa) B.pre
  have hw : ∀ w ∈ wa, w.before _ s = true := fun w h => hts w (List.mem_cons_of_mem _ h)
  have hown : s.vm.findClass R_C = some m.cls := findClass_of_methodNamed B.named
  have hlocks := B.notSynchronized
  have hl := lv_entry ([.long a0, .long a1, .long a2, .long a3]) (n := 8) (Nat.le_of_ble_eq_true rfl)
  rw [lg_entry_eq]
  generalize (lg_sl ([.long a0, .long a1, .long a2, .long a3]) ++ List.replicate (8 - (lg_sl ([.long a0, .long a1, .long a2, .long a3])).length) Slot.unset).toArray = ls at hl ⊢
  have hl : lv_has ls 8 [(0, .long a0), (2, .long a1), (4, .long a2), (6, .long a3)] := hl
  unfold f_C_sumOfMultiples at hF
  refine lv_lload_n hx hb d_C_sumOfMultiples_0 rfl (lv_at hl 0 rfl) ?_
  refine lv_lload_n hx hb d_C_sumOfMultiples_1 rfl (lv_at hl 1 rfl) ?_
  obtain ⟨r1, e_r1, hF⟩ := Option.bind_eq_some_iff.mp hF
  refine vp_callSl (va_runS (As := [.long a0, .long a1]) (rest := []) ⟨hx, hb, hml, hown, hts⟩ (k_C_multiple l a0 a1 r1 e_r1) (va_cwS 2 hts (ga_S ww_151 ww_152 ww_11 ww_153) rfl rfl rfl (by decide +kernel) ⟨by decide, by decide⟩) (pcs_pre hN) rfl rfl hl.1 rfl (lv_room (Nat.le_of_ble_eq_true rfl)) d_C_sumOfMultiples_2 ⟨Nat.zero_le _, Nat.zero_le _⟩).run (fun z9 hz9 => ?_)
  obtain rfl : r1 = z9 := hz9.symm
  refine lv_lload hx hb d_C_sumOfMultiples_5 (lv_at hl 2 rfl) ?_
  refine lv_lload hx hb d_C_sumOfMultiples_7 (lv_at hl 3 rfl) ?_
  obtain ⟨r2, e_r2, hF⟩ := Option.bind_eq_some_iff.mp hF
  refine vp_callSl (va_runS (As := [.long a2, .long a3]) (rest := [.long r1]) ⟨hx, hb, hml, hown, hts⟩ (k_C_multiple l a2 a3 r2 e_r2) (va_cwS 2 hts (ga_S ww_151 ww_152 ww_11 ww_153) rfl rfl rfl (by decide +kernel) ⟨by decide, by decide⟩) (pcs_pre hN) rfl rfl hl.1 rfl (lv_room (Nat.le_of_ble_eq_true rfl)) d_C_sumOfMultiples_9 ⟨Nat.zero_le _, Nat.zero_le _⟩).run (fun z9 hz9 => ?_)
  obtain rfl : r2 = z9 := hz9.symm
  obtain ⟨r3, e_r3, hF⟩ := Option.bind_eq_some_iff.mp hF
  refine vp_callSl (va_runS (As := [.long r1, .long r2]) (rest := []) ⟨hx, hb, hml, hown, hts⟩ (k_C_sum l r1 r2 r3 e_r3) (va_cwS 2 hts (ga_S ww_154 ww_155 ww_11 ww_156) rfl rfl rfl (by decide +kernel) ⟨by decide, by decide⟩) (pcs_pre hN) rfl rfl hl.1 rfl (lv_room (Nat.le_of_ble_eq_true rfl)) d_C_sumOfMultiples_12 ⟨Nat.zero_le _, Nat.zero_le _⟩).run (fun z9 hz9 => ?_)
  obtain rfl : r3 = z9 := hz9.symm
  obtain rfl := Option.some.inj hF
  exact W.lret hx hb hr (fun t ht hW => ⟨_, rfl, rfl, ht⟩) (fun _ h => nomatch h) d_C_sumOfMultiples_15
def f_I_weight (a0 : Int64) (a1 : Int32) : Option Int64 := Option.bind (if a1 = 0 then (some (1) : Option (Int64)) else (Option.bind (f_K_mix a0 (Int32.toInt64 a1)) (fun r5 => some (1 + (((Int64.toUInt64 r5 >>> ((Int32.toInt64 34).toUInt64 &&& Int64.toUInt64 63)).toInt64) - ((Int64.toUInt64 r5 >>> ((Int32.toInt64 34).toUInt64 &&& Int64.toUInt64 63)).toInt64) / 1073729076 * 1073729076))))) (fun j1 => some (j1))
abbrev rm_I_weight : Room := { frames := 1, cells := 0, slots := 0, locals := 25 }
set_option maxHeartbeats 4000000 in
set_option maxRecDepth 100000 in
theorem k_I_weight (l : Launch) (a0 : Int64) (a1 : Int32) (r : Int64) (hF : f_I_weight a0 a1 = some r) : Met l y_I_weight (Cond.code y_I_weight b_I_weight 3 (some .long) :: wa) rm_I_weight (pcs [.long a0, .int a1]) (vp_Sl (fun z => z = r)) 0 0 (fun _ => False) := by
  refine Met.ofW (cc := b_I_weight) (maxL := 3) (ret := (some .long)) (by decide) rfl ?_
  intro p e s m args below meth c s₁ B hml hv
  obtain ⟨rfl, hN⟩ := hv
  have hx := B.exec
  have hb := B.bytes
  have hr := B.returns
  have hts := atoms_spec (ws := Cond.code y_I_weight b_I_weight 3 (some .long) :: wa) B.pre
  have hw : ∀ w ∈ wa, w.before _ s = true := fun w h => hts w (List.mem_cons_of_mem _ h)
  have hown : s.vm.findClass R_I = some m.cls := findClass_of_methodNamed B.named
  have hlocks := B.notSynchronized
  have hl := lv_entry ([.long a0, .int a1]) (n := 3) (Nat.le_of_ble_eq_true rfl)
  rw [lg_entry_eq]
  generalize (lg_sl ([.long a0, .int a1]) ++ List.replicate (3 - (lg_sl ([.long a0, .int a1])).length) Slot.unset).toArray = ls at hl ⊢
  have hl : lv_has ls 3 [(0, .long a0), (2, .int a1)] := hl
  unfold f_I_weight at hF
  refine lv_iload_n hx hb d_I_weight_0 rfl (lv_at hl 1 rfl) ?_
  obtain ⟨j1, q3, hF⟩ := Option.bind_eq_some_iff.mp hF
  have k2 : ∀ (ls : Array Slot), lv_has ls 3 [] → W p l e rm_I_weight s m ([Value.long a0, Value.int a1] : List Value).toArray below meth c s.heap [] 0 0 (MQ below (vp_Sl (fun z => z = r)) ([Value.long a0, Value.int a1] : List Value).toArray s 0 0 (fun _ => False)) (F0 m 23 ls [.long j1]) := by
    intro ls hl
    obtain rfl := Option.some.inj hF
    exact W.lret hx hb hr (fun t ht hW => ⟨_, rfl, rfl, ht⟩) (fun _ h => nomatch h) d_I_weight_23
  clear hF
  have hF := q3
  refine lv_if_ne hx hb d_I_weight_1 (tgt := 8) (by decide) (fun h9 => ?_) (fun h9 => ?_)
  · have hF := (if_neg h9).symm.trans hF
    refine lv_lconst (v := 1) hx hb d_I_weight_8 (by decide) ?_
    refine lv_lload_n hx hb d_I_weight_9 rfl (lv_at hl 0 rfl) ?_
    refine lv_iload_n hx hb d_I_weight_10 rfl (lv_at hl 1 rfl) ?_
    refine lv_i2l (v := Int32.toInt64 a1) hx hb d_I_weight_11 rfl ?_
    obtain ⟨r5, e_r5, hF⟩ := Option.bind_eq_some_iff.mp hF
    refine vp_callSl (va_runSN (As := [.long a0, .long (Int32.toInt64 a1)]) (rest := [.long 1]) ⟨hx, hb, hml, hown, hts⟩ (k_K_mix l a0 (Int32.toInt64 a1) r5 e_r5) ⟨va_cnB 2 hts (ga_N ww_134) rfl rfl rfl (hN _ nl_2) (hw _ ww_1) (by decide +kernel) ⟨by decide, by decide⟩, hw _ ww_133, trivial⟩ (pcs_pre hN) rfl rfl hl.1 rfl (lv_room (Nat.le_of_ble_eq_true rfl)) d_I_weight_12 ⟨Nat.zero_le _, Nat.zero_le _⟩).run (fun z9 hz9 => ?_)
    obtain rfl : r5 = z9 := hz9.symm
    refine lv_bipush (v := 34) hx hb d_I_weight_15 (by decide) ?_
    refine lv_lushr (v := (Int64.toUInt64 r5 >>> ((Int32.toInt64 34).toUInt64 &&& Int64.toUInt64 63)).toInt64) hx hb d_I_weight_17 rfl ?_
    refine lv_ldc2 (v := 1073729076) hx hb hown (hw _ ww_138) d_I_weight_18 ?_
    refine lv_lrem hx hb d_I_weight_21 (by decide) ?_
    refine lv_ladd hx hb d_I_weight_22 ?_
    obtain rfl := Option.some.inj hF
    exact k2 ls (lv_sub hl [] rfl)
  · have hF := (if_pos h9).symm.trans hF
    refine lv_lconst (v := 1) hx hb d_I_weight_4 (by decide) ?_
    refine lv_goto hx hb d_I_weight_5 (tgt := 23) (by decide) ?_
    obtain rfl := Option.some.inj hF
    exact k2 ls (lv_sub hl [] rfl)
def f_O_bytesOf (a0 : Int32) : Option Int32 := if 128 ≤ a0 then (if 32768 ≤ a0 then (Option.bind (if 8388608 ≤ a0 then (some (4) : Option (Int32)) else (some (3))) (fun j1 => some (j1))) else (some (2))) else (some (1))
abbrev rm_O_bytesOf : Room := { frames := 0, cells := 0, slots := 0, locals := 0 }
set_option maxHeartbeats 4000000 in
set_option maxRecDepth 100000 in
theorem k_O_bytesOf (l : Launch) (a0 : Int32) (r : Int32) (hF : f_O_bytesOf a0 = some r) : Met l y_O_bytesOf (Cond.code y_O_bytesOf b_O_bytesOf 1 (some .int) :: wa) rm_O_bytesOf (pcs [.int a0]) (vp_Si (fun z => z = r)) 0 0 (fun _ => False) := by
  refine Met.ofW (cc := b_O_bytesOf) (maxL := 1) (ret := (some .int)) (by decide) rfl ?_
  intro p e s m args below meth c s₁ B hml hv
  obtain ⟨rfl, hN⟩ := hv
  have hx := B.exec
  have hb := B.bytes
  have hr := B.returns
  have hts := atoms_spec (ws := Cond.code y_O_bytesOf b_O_bytesOf 1 (some .int) :: wa) B.pre
  have hw : ∀ w ∈ wa, w.before _ s = true := fun w h => hts w (List.mem_cons_of_mem _ h)
  have hown : s.vm.findClass R_O = some m.cls := findClass_of_methodNamed B.named
  have hlocks := B.notSynchronized
  have hl := lv_entry ([.int a0]) (n := 1) (Nat.le_of_ble_eq_true rfl)
  rw [lg_entry_eq]
  generalize (lg_sl ([.int a0]) ++ List.replicate (1 - (lg_sl ([.int a0])).length) Slot.unset).toArray = ls at hl ⊢
  have hl : lv_has ls 1 [(0, .int a0)] := hl
  unfold f_O_bytesOf at hF
  refine lv_iload_n hx hb d_O_bytesOf_0 rfl (lv_at hl 0 rfl) ?_
  refine lv_sipush (v := 128) hx hb d_O_bytesOf_1 (by decide) ?_
  refine lv_icmp_ge hx hb d_O_bytesOf_4 (tgt := 9) (by decide) (fun h9 => ?_) (fun h9 => ?_)
  · have hF := (if_pos h9).symm.trans hF
    refine lv_iload_n hx hb d_O_bytesOf_9 rfl (lv_at hl 0 rfl) ?_
    refine lv_ldc (v := 32768) hx hb hown (hw _ ww_201) d_O_bytesOf_10 ?_
    refine lv_icmp_ge hx hb d_O_bytesOf_12 (tgt := 17) (by decide) (fun h9 => ?_) (fun h9 => ?_)
    · have hF := (if_pos h9).symm.trans hF
      refine lv_iload_n hx hb d_O_bytesOf_17 rfl (lv_at hl 0 rfl) ?_
      refine lv_ldc (v := 8388608) hx hb hown (hw _ ww_202) d_O_bytesOf_18 ?_
      obtain ⟨j1, q3, hF⟩ := Option.bind_eq_some_iff.mp hF
      have k2 : ∀ (ls : Array Slot), lv_has ls 1 [] → W p l e rm_O_bytesOf s m ([Value.int a0] : List Value).toArray below meth c s.heap [] 0 0 (MQ below (vp_Si (fun z => z = r)) ([Value.int a0] : List Value).toArray s 0 0 (fun _ => False)) (F0 m 28 ls [.int j1]) := by
        intro ls hl
        obtain rfl := Option.some.inj hF
        exact W.iret hx hb hr (fun t ht hW => ⟨_, rfl, rfl, ht⟩) (fun _ h => nomatch h) d_O_bytesOf_28
      clear hF
      have hF := q3
      refine lv_icmp_ge hx hb d_O_bytesOf_20 (tgt := 27) (by decide) (fun h9 => ?_) (fun h9 => ?_)
      · have hF := (if_pos h9).symm.trans hF
        refine lv_iconst (v := 4) hx hb d_O_bytesOf_27 (by decide) ?_
        obtain rfl := Option.some.inj hF
        exact k2 ls (lv_sub hl [] rfl)
      · have hF := (if_neg h9).symm.trans hF
        refine lv_iconst (v := 3) hx hb d_O_bytesOf_23 (by decide) ?_
        refine lv_goto hx hb d_O_bytesOf_24 (tgt := 28) (by decide) ?_
        obtain rfl := Option.some.inj hF
        exact k2 ls (lv_sub hl [] rfl)
    · have hF := (if_neg h9).symm.trans hF
      refine lv_iconst (v := 2) hx hb d_O_bytesOf_15 (by decide) ?_
      obtain rfl := Option.some.inj hF
      exact W.iret hx hb hr (fun t ht hW => ⟨_, rfl, rfl, ht⟩) (fun _ h => nomatch h) d_O_bytesOf_16
  · have hF := (if_neg h9).symm.trans hF
    refine lv_iconst (v := 1) hx hb d_O_bytesOf_7 (by decide) ?_
    obtain rfl := Option.some.inj hF
    exact W.iret hx hb hr (fun t ht hW => ⟨_, rfl, rfl, ht⟩) (fun _ h => nomatch h) d_O_bytesOf_8
def f_O_length (a0 : Int32) (a1 : Int32) : Option Int32 := Option.bind (f_O_bytesOf a0) (fun r1 => Option.bind (f_O_bytesOf a1) (fun r2 => some ((6 + r1) + r2)))
abbrev rm_O_length : Room := { frames := 1, cells := 0, slots := 0, locals := 20 }
set_option maxHeartbeats 4000000 in
set_option maxRecDepth 100000 in
theorem k_O_length (l : Launch) (a0 : Int32) (a1 : Int32) (r : Int32) (hF : f_O_length a0 a1 = some r) : Met l y_O_length (Cond.code y_O_length b_O_length 2 (some .int) :: wa) rm_O_length (pcs [.int a0, .int a1]) (vp_Si (fun z => z = r)) 0 0 (fun _ => False) := by
  refine Met.ofW (cc := b_O_length) (maxL := 2) (ret := (some .int)) (by decide) rfl ?_
  intro p e s m args below meth c s₁ B hml hv
  obtain ⟨rfl, hN⟩ := hv
  have hx := B.exec
  have hb := B.bytes
  have hr := B.returns
  have hts := atoms_spec (ws := Cond.code y_O_length b_O_length 2 (some .int) :: wa) B.pre
  have hw : ∀ w ∈ wa, w.before _ s = true := fun w h => hts w (List.mem_cons_of_mem _ h)
  have hown : s.vm.findClass R_O = some m.cls := findClass_of_methodNamed B.named
  have hlocks := B.notSynchronized
  have hl := lv_entry ([.int a0, .int a1]) (n := 2) (Nat.le_of_ble_eq_true rfl)
  rw [lg_entry_eq]
  generalize (lg_sl ([.int a0, .int a1]) ++ List.replicate (2 - (lg_sl ([.int a0, .int a1])).length) Slot.unset).toArray = ls at hl ⊢
  have hl : lv_has ls 2 [(0, .int a0), (1, .int a1)] := hl
  unfold f_O_length at hF
  refine lv_bipush (v := 6) hx hb d_O_length_0 (by decide) ?_
  refine lv_iload_n hx hb d_O_length_2 rfl (lv_at hl 0 rfl) ?_
  obtain ⟨r1, e_r1, hF⟩ := Option.bind_eq_some_iff.mp hF
  refine vp_callSi (va_runS (As := [.int a0]) (rest := [.int 6]) ⟨hx, hb, hml, hown, hts⟩ (k_O_bytesOf l a0 r1 e_r1) (va_cwS 1 hts (ga_S ww_198 ww_199 ww_16 ww_200) rfl rfl rfl (by decide +kernel) ⟨by decide, by decide⟩) (pcs_pre hN) rfl rfl hl.1 rfl (lv_room (Nat.le_of_ble_eq_true rfl)) d_O_length_3 ⟨Nat.zero_le _, Nat.zero_le _⟩).run (fun z9 hz9 => ?_)
  obtain rfl : r1 = z9 := hz9.symm
  refine lv_iadd hx hb d_O_length_6 ?_
  refine lv_iload_n hx hb d_O_length_7 rfl (lv_at hl 1 rfl) ?_
  obtain ⟨r2, e_r2, hF⟩ := Option.bind_eq_some_iff.mp hF
  refine vp_callSi (va_runS (As := [.int a1]) (rest := [.int (6 + r1)]) ⟨hx, hb, hml, hown, hts⟩ (k_O_bytesOf l a1 r2 e_r2) (va_cwS 1 hts (ga_S ww_198 ww_199 ww_16 ww_200) rfl rfl rfl (by decide +kernel) ⟨by decide, by decide⟩) (pcs_pre hN) rfl rfl hl.1 rfl (lv_room (Nat.le_of_ble_eq_true rfl)) d_O_length_8 ⟨Nat.zero_le _, Nat.zero_le _⟩).run (fun z9 hz9 => ?_)
  obtain rfl : r2 = z9 := hz9.symm
  refine lv_iadd hx hb d_O_length_11 ?_
  obtain rfl := Option.some.inj hF
  exact W.iret hx hb hr (fun t ht hW => ⟨_, rfl, rfl, ht⟩) (fun _ h => nomatch h) d_O_length_12
def f_O_numberByteAt (a0 : Int32) (a1 : Int32) : Option Int32 := if a1 = 0 then (some (2)) else (Option.bind (f_O_bytesOf a0) (fun r1 => Option.bind (if a1 = 1 then (some (r1) : Option (Int32)) else (some (((Int32.toUInt32 a0 >>> (Int32.toUInt32 (8 * ((r1 + 1) - a1)) &&& Int32.toUInt32 31)).toInt32) &&& 255))) (fun j2 => some (j2))))
abbrev rm_O_numberByteAt : Room := { frames := 1, cells := 0, slots := 0, locals := 20 }
set_option maxHeartbeats 4000000 in
set_option maxRecDepth 100000 in
theorem k_O_numberByteAt (l : Launch) (a0 : Int32) (a1 : Int32) (r : Int32) (hF : f_O_numberByteAt a0 a1 = some r) : Met l y_O_numberByteAt (Cond.code y_O_numberByteAt b_O_numberByteAt 3 (some .int) :: wa) rm_O_numberByteAt (pcs [.int a0, .int a1]) (vp_Si (fun z => z = r)) 0 0 (fun _ => False) := by
  refine Met.ofW (cc := b_O_numberByteAt) (maxL := 3) (ret := (some .int)) (by decide) rfl ?_
  intro p e s m args below meth c s₁ B hml hv
  obtain ⟨rfl, hN⟩ := hv
  have hx := B.exec
  have hb := B.bytes
  have hr := B.returns
  have hts := atoms_spec (ws := Cond.code y_O_numberByteAt b_O_numberByteAt 3 (some .int) :: wa) B.pre
  have hw : ∀ w ∈ wa, w.before _ s = true := fun w h => hts w (List.mem_cons_of_mem _ h)
  have hown : s.vm.findClass R_O = some m.cls := findClass_of_methodNamed B.named
  have hlocks := B.notSynchronized
  have hl := lv_entry ([.int a0, .int a1]) (n := 3) (Nat.le_of_ble_eq_true rfl)
  rw [lg_entry_eq]
  generalize (lg_sl ([.int a0, .int a1]) ++ List.replicate (3 - (lg_sl ([.int a0, .int a1])).length) Slot.unset).toArray = ls at hl ⊢
  have hl : lv_has ls 3 [(0, .int a0), (1, .int a1)] := hl
  unfold f_O_numberByteAt at hF
  refine lv_iload_n hx hb d_O_numberByteAt_0 rfl (lv_at hl 1 rfl) ?_
  refine lv_if_ne hx hb d_O_numberByteAt_1 (tgt := 6) (by decide) (fun h9 => ?_) (fun h9 => ?_)
  · have hF := (if_neg h9).symm.trans hF
    refine lv_iload_n hx hb d_O_numberByteAt_6 rfl (lv_at hl 0 rfl) ?_
    obtain ⟨r1, e_r1, hF⟩ := Option.bind_eq_some_iff.mp hF
    refine vp_callSi (va_runS (As := [.int a0]) (rest := []) ⟨hx, hb, hml, hown, hts⟩ (k_O_bytesOf l a0 r1 e_r1) (va_cwS 1 hts (ga_S ww_198 ww_199 ww_16 ww_200) rfl rfl rfl (by decide +kernel) ⟨by decide, by decide⟩) (pcs_pre hN) rfl rfl hl.1 rfl (lv_room (Nat.le_of_ble_eq_true rfl)) d_O_numberByteAt_7 ⟨Nat.zero_le _, Nat.zero_le _⟩).run (fun z9 hz9 => ?_)
    obtain rfl : r1 = z9 := hz9.symm
    refine lv_istore_n hx hb d_O_numberByteAt_10 rfl hl (by decide) (lv' := [(2, .int r1), (0, .int a0), (1, .int a1)]) rfl (fun ls hl => ?_)
    refine lv_iload_n hx hb d_O_numberByteAt_11 rfl (lv_at hl 2 rfl) ?_
    refine lv_iconst (v := 1) hx hb d_O_numberByteAt_12 (by decide) ?_
    obtain ⟨j2, q4, hF⟩ := Option.bind_eq_some_iff.mp hF
    have k3 : ∀ (ls : Array Slot), lv_has ls 3 [] → W p l e rm_O_numberByteAt s m ([Value.int a0, Value.int a1] : List Value).toArray below meth c s.heap [] 0 0 (MQ below (vp_Si (fun z => z = r)) ([Value.int a0, Value.int a1] : List Value).toArray s 0 0 (fun _ => False)) (F0 m 34 ls [.int j2]) := by
      intro ls hl
      obtain rfl := Option.some.inj hF
      exact W.iret hx hb hr (fun t ht hW => ⟨_, rfl, rfl, ht⟩) (fun _ h => nomatch h) d_O_numberByteAt_34
    clear hF
    have hF := q4
    refine lv_icmp_ne hx hb d_O_numberByteAt_13 (tgt := 20) (by decide) (fun h9 => ?_) (fun h9 => ?_)
    · have hF := (if_neg h9).symm.trans hF
      refine lv_iload_n hx hb d_O_numberByteAt_20 rfl (lv_at hl 1 rfl) ?_
      refine lv_bipush (v := 8) hx hb d_O_numberByteAt_21 (by decide) ?_
      refine lv_iload_n hx hb d_O_numberByteAt_23 rfl (lv_at hl 0 rfl) ?_
      refine lv_iconst (v := 1) hx hb d_O_numberByteAt_24 (by decide) ?_
      refine lv_iadd hx hb d_O_numberByteAt_25 ?_
      refine lv_iload_n hx hb d_O_numberByteAt_26 rfl (lv_at hl 2 rfl) ?_
      refine lv_isub hx hb d_O_numberByteAt_27 ?_
      refine lv_imul hx hb d_O_numberByteAt_28 ?_
      refine lv_iushr (v := (Int32.toUInt32 a0 >>> (Int32.toUInt32 (8 * ((r1 + 1) - a1)) &&& Int32.toUInt32 31)).toInt32) hx hb d_O_numberByteAt_29 rfl ?_
      refine lv_sipush (v := 255) hx hb d_O_numberByteAt_30 (by decide) ?_
      refine lv_iand hx hb d_O_numberByteAt_33 ?_
      obtain rfl := Option.some.inj hF
      exact k3 ls (lv_sub hl [] rfl)
    · have hF := (if_pos h9).symm.trans hF
      refine lv_iload_n hx hb d_O_numberByteAt_16 rfl (lv_at hl 0 rfl) ?_
      refine lv_goto hx hb d_O_numberByteAt_17 (tgt := 34) (by decide) ?_
      obtain rfl := Option.some.inj hF
      exact k3 ls (lv_sub hl [] rfl)
  · have hF := (if_pos h9).symm.trans hF
    refine lv_iconst (v := 2) hx hb d_O_numberByteAt_4 (by decide) ?_
    obtain rfl := Option.some.inj hF
    exact W.iret hx hb hr (fun t ht hW => ⟨_, rfl, rfl, ht⟩) (fun _ h => nomatch h) d_O_numberByteAt_5
def f_O_byteAt (a0 : Int32) (a1 : Int32) (a2 : Int32) : Option Int32 := if a2 = 0 then (some (48)) else (if a2 = 1 then (Option.bind (f_O_length a0 a1) (fun r9 => some (r9 - 2))) else (Option.bind (f_O_bytesOf a0) (fun r1 => Option.bind (some (4 + r1)) (fun v2 => Option.bind (if v2 ≤ a2 then (Option.bind (f_O_numberByteAt a1 (a2 - v2)) (fun r7 => some (r7)) : Option (Int32)) else (Option.bind (f_O_numberByteAt a0 (a2 - 2)) (fun r8 => some (r8)))) (fun j3 => some (j3))))))
abbrev rm_O_byteAt : Room := { frames := 2, cells := 0, slots := 0, locals := 42 }
set_option maxHeartbeats 4000000 in
set_option maxRecDepth 100000 in
theorem k_O_byteAt (l : Launch) (a0 : Int32) (a1 : Int32) (a2 : Int32) (r : Int32) (hF : f_O_byteAt a0 a1 a2 = some r) : Met l y_O_byteAt (Cond.code y_O_byteAt b_O_byteAt 4 (some .int) :: wa) rm_O_byteAt (pcs [.int a0, .int a1, .int a2]) (vp_Si (fun z => z = r)) 0 0 (fun _ => False) := by
  refine Met.ofW (cc := b_O_byteAt) (maxL := 4) (ret := (some .int)) (by decide) rfl ?_
  intro p e s m args below meth c s₁ B hml hv
  obtain ⟨rfl, hN⟩ := hv
  have hx := B.exec
  have hb := B.bytes
  have hr := B.returns
  have hts := atoms_spec (ws := Cond.code y_O_byteAt b_O_byteAt 4 (some .int) :: wa) B.pre
  have hw : ∀ w ∈ wa, w.before _ s = true := fun w h => hts w (List.mem_cons_of_mem _ h)
  have hown : s.vm.findClass R_O = some m.cls := findClass_of_methodNamed B.named
  have hlocks := B.notSynchronized
  have hl := lv_entry ([.int a0, .int a1, .int a2]) (n := 4) (Nat.le_of_ble_eq_true rfl)
  rw [lg_entry_eq]
  generalize (lg_sl ([.int a0, .int a1, .int a2]) ++ List.replicate (4 - (lg_sl ([.int a0, .int a1, .int a2])).length) Slot.unset).toArray = ls at hl ⊢
  have hl : lv_has ls 4 [(0, .int a0), (1, .int a1), (2, .int a2)] := hl
  unfold f_O_byteAt at hF
  refine lv_iload_n hx hb d_O_byteAt_0 rfl (lv_at hl 2 rfl) ?_
  refine lv_if_ne hx hb d_O_byteAt_1 (tgt := 7) (by decide) (fun h9 => ?_) (fun h9 => ?_)
  · have hF := (if_neg h9).symm.trans hF
    refine lv_iload_n hx hb d_O_byteAt_7 rfl (lv_at hl 2 rfl) ?_
    refine lv_iconst (v := 1) hx hb d_O_byteAt_8 (by decide) ?_
    refine lv_icmp_ne hx hb d_O_byteAt_9 (tgt := 20) (by decide) (fun h9 => ?_) (fun h9 => ?_)
    · have hF := (if_neg h9).symm.trans hF
      refine lv_iconst (v := 4) hx hb d_O_byteAt_20 (by decide) ?_
      refine lv_iload_n hx hb d_O_byteAt_21 rfl (lv_at hl 0 rfl) ?_
      obtain ⟨r1, e_r1, hF⟩ := Option.bind_eq_some_iff.mp hF
      refine vp_callSi (va_runS (As := [.int a0]) (rest := [.int 4]) ⟨hx, hb, hml, hown, hts⟩ (k_O_bytesOf l a0 r1 e_r1) (va_cwS 1 hts (ga_S ww_198 ww_199 ww_16 ww_200) rfl rfl rfl (by decide +kernel) ⟨by decide, by decide⟩) (pcs_pre hN) rfl rfl hl.1 rfl (lv_room (Nat.le_of_ble_eq_true rfl)) d_O_byteAt_22 ⟨Nat.zero_le _, Nat.zero_le _⟩).run (fun z9 hz9 => ?_)
      obtain rfl : r1 = z9 := hz9.symm
      refine lv_iadd hx hb d_O_byteAt_25 ?_
      obtain ⟨v2, e_v2, hF⟩ := Option.bind_eq_some_iff.mp hF
      refine nm_i (Option.some.inj e_v2) ?_
      refine lv_istore_n hx hb d_O_byteAt_26 rfl hl (by decide) (lv' := [(3, .int v2), (0, .int a0), (1, .int a1), (2, .int a2)]) rfl (fun ls hl => ?_)
      refine lv_iload_n hx hb d_O_byteAt_27 rfl (lv_at hl 3 rfl) ?_
      refine lv_iload_n hx hb d_O_byteAt_28 rfl (lv_at hl 0 rfl) ?_
      obtain ⟨j3, q5, hF⟩ := Option.bind_eq_some_iff.mp hF
      have k4 : ∀ (ls : Array Slot), lv_has ls 4 [] → W p l e rm_O_byteAt s m ([Value.int a0, Value.int a1, Value.int a2] : List Value).toArray below meth c s.heap [] 0 0 (MQ below (vp_Si (fun z => z = r)) ([Value.int a0, Value.int a1, Value.int a2] : List Value).toArray s 0 0 (fun _ => False)) (F0 m 49 ls [.int j3]) := by
        intro ls hl
        obtain rfl := Option.some.inj hF
        exact W.iret hx hb hr (fun t ht hW => ⟨_, rfl, rfl, ht⟩) (fun _ h => nomatch h) d_O_byteAt_49
      clear hF
      have hF := q5
      refine lv_icmp_ge hx hb d_O_byteAt_29 (tgt := 42) (by decide) (fun h9 => ?_) (fun h9 => ?_)
      · have hF := (if_pos h9).symm.trans hF
        refine lv_iload_n hx hb d_O_byteAt_42 rfl (lv_at hl 2 rfl) ?_
        refine lv_iload_n hx hb d_O_byteAt_43 rfl (lv_at hl 3 rfl) ?_
        refine lv_iload_n hx hb d_O_byteAt_44 rfl (lv_at hl 0 rfl) ?_
        refine lv_isub hx hb d_O_byteAt_45 ?_
        obtain ⟨r7, e_r7, hF⟩ := Option.bind_eq_some_iff.mp hF
        refine vp_callSi (va_runS (As := [.int a1, .int (a2 - v2)]) (rest := []) ⟨hx, hb, hml, hown, hts⟩ (k_O_numberByteAt l a1 (a2 - v2) r7 e_r7) (va_cwS 2 hts (ga_S ww_207 ww_208 ww_16 ww_209) rfl rfl rfl (by decide +kernel) ⟨by decide, by decide⟩) (pcs_pre hN) rfl rfl hl.1 rfl (lv_room (Nat.le_of_ble_eq_true rfl)) d_O_byteAt_46 ⟨Nat.zero_le _, Nat.zero_le _⟩).run (fun z9 hz9 => ?_)
        obtain rfl : r7 = z9 := hz9.symm
        obtain rfl := Option.some.inj hF
        exact k4 ls (lv_sub hl [] rfl)
      · have hF := (if_neg h9).symm.trans hF
        refine lv_iload_n hx hb d_O_byteAt_32 rfl (lv_at hl 1 rfl) ?_
        refine lv_iload_n hx hb d_O_byteAt_33 rfl (lv_at hl 3 rfl) ?_
        refine lv_iconst (v := 2) hx hb d_O_byteAt_34 (by decide) ?_
        refine lv_isub hx hb d_O_byteAt_35 ?_
        obtain ⟨r8, e_r8, hF⟩ := Option.bind_eq_some_iff.mp hF
        refine vp_callSi (va_runS (As := [.int a0, .int (a2 - 2)]) (rest := []) ⟨hx, hb, hml, hown, hts⟩ (k_O_numberByteAt l a0 (a2 - 2) r8 e_r8) (va_cwS 2 hts (ga_S ww_207 ww_208 ww_16 ww_209) rfl rfl rfl (by decide +kernel) ⟨by decide, by decide⟩) (pcs_pre hN) rfl rfl hl.1 rfl (lv_room (Nat.le_of_ble_eq_true rfl)) d_O_byteAt_36 ⟨Nat.zero_le _, Nat.zero_le _⟩).run (fun z9 hz9 => ?_)
        obtain rfl : r8 = z9 := hz9.symm
        refine lv_goto hx hb d_O_byteAt_39 (tgt := 49) (by decide) ?_
        obtain rfl := Option.some.inj hF
        exact k4 ls (lv_sub hl [] rfl)
    · have hF := (if_pos h9).symm.trans hF
      refine lv_iload_n hx hb d_O_byteAt_12 rfl (lv_at hl 0 rfl) ?_
      refine lv_iload_n hx hb d_O_byteAt_13 rfl (lv_at hl 1 rfl) ?_
      obtain ⟨r9, e_r9, hF⟩ := Option.bind_eq_some_iff.mp hF
      refine vp_callSi (va_runS (As := [.int a0, .int a1]) (rest := []) ⟨hx, hb, hml, hown, hts⟩ (k_O_length l a0 a1 r9 e_r9) (va_cwS 2 hts (ga_S ww_206 ww_196 ww_16 ww_197) rfl rfl rfl (by decide +kernel) ⟨by decide, by decide⟩) (pcs_pre hN) rfl rfl hl.1 rfl (lv_room (Nat.le_of_ble_eq_true rfl)) d_O_byteAt_14 ⟨Nat.zero_le _, Nat.zero_le _⟩).run (fun z9 hz9 => ?_)
      obtain rfl : r9 = z9 := hz9.symm
      refine lv_iconst (v := 2) hx hb d_O_byteAt_17 (by decide) ?_
      refine lv_isub hx hb d_O_byteAt_18 ?_
      obtain rfl := Option.some.inj hF
      exact W.iret hx hb hr (fun t ht hW => ⟨_, rfl, rfl, ht⟩) (fun _ h => nomatch h) d_O_byteAt_19
  · have hF := (if_pos h9).symm.trans hF
    refine lv_bipush (v := 48) hx hb d_O_byteAt_4 (by decide) ?_
    obtain rfl := Option.some.inj hF
    exact W.iret hx hb hr (fun t ht hW => ⟨_, rfl, rfl, ht⟩) (fun _ h => nomatch h) d_O_byteAt_6
