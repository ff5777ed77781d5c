/-! The law's own methods that catch: the class's cells and the array for answers. -/
abbrev sX : Type := sK × (Nat → Int64)
abbrev wX (A : Nat → Nat) (cc : Nat → ClassId) (u : sX) : va_W := [(A 0, .inr (2, [.ref (A 1), .ref (A 2), .ref (A 3), .ref (A 8), .int u.1.2.2.1])), (A 1, .inl (cc 1, 6, .inr (.inl u.1.1))), (A 2, .inl (cc 2, 6, .inr (.inl u.1.2.1))), (A 3, .inr (0, [.ref (A 4), .ref (A 5), .ref (A 6), .ref (A 7), .int u.1.2.2.2.2.2.2.2.1])), (A 4, .inl (cc 4, 8, .inr (.inl u.1.2.2.2.1))), (A 5, .inl (cc 5, 8, .inr (.inl u.1.2.2.2.2.1))), (A 6, .inl (cc 6, 8, .inl u.1.2.2.2.2.2.1)), (A 7, .inl (cc 7, 8, .inl u.1.2.2.2.2.2.2.1)), (A 8, .inr (1, [.ref (A 9), .int u.1.2.2.2.2.2.2.2.2.2])), (A 9, .inl (cc 9, 20, .inl u.1.2.2.2.2.2.2.2.2.1)), (A 10, .inl (cc 10, 1, .inr (.inl u.2)))]
abbrev kX (cc : Nat → ClassId) : List (ClassId × FieldType) := [(cc 1, .long), (cc 2, .long), (cc 4, .long), (cc 5, .long), (cc 6, .int), (cc 7, .int), (cc 9, .int), (cc 10, .long)]
def ncl : List (String × String) := [("java/lang/IllegalArgumentException", "java/lang/IndexOutOfBoundsException"), ("java/util/NoSuchElementException", "java/lang/IndexOutOfBoundsException"), ("java/lang/IllegalStateException", "java/lang/IndexOutOfBoundsException"), ("java/lang/UnsupportedOperationException", "java/lang/IndexOutOfBoundsException"), ("java/lang/IndexOutOfBoundsException", "java/lang/IllegalArgumentException"), ("java/util/NoSuchElementException", "java/lang/IllegalArgumentException"), ("java/lang/IllegalStateException", "java/lang/IllegalArgumentException"), ("java/lang/UnsupportedOperationException", "java/lang/IllegalArgumentException"), ("java/lang/IndexOutOfBoundsException", "java/util/NoSuchElementException"), ("java/lang/IllegalArgumentException", "java/util/NoSuchElementException"), ("java/lang/IllegalStateException", "java/util/NoSuchElementException"), ("java/lang/UnsupportedOperationException", "java/util/NoSuchElementException"), ("java/lang/IndexOutOfBoundsException", "java/lang/IllegalStateException"), ("java/lang/IllegalArgumentException", "java/lang/IllegalStateException"), ("java/util/NoSuchElementException", "java/lang/IllegalStateException"), ("java/lang/UnsupportedOperationException", "java/lang/IllegalStateException"), ("java/lang/IndexOutOfBoundsException", "java/lang/UnsupportedOperationException"), ("java/lang/IllegalArgumentException", "java/lang/UnsupportedOperationException"), ("java/util/NoSuchElementException", "java/lang/UnsupportedOperationException"), ("java/lang/IllegalStateException", "java/lang/UnsupportedOperationException")]
def nc (U : State) : Prop := ∀ q ∈ ncl, va_Nc q.1 q.2 U
theorem nc_moved {u U : State} (hvm : u.vm.Alike U.vm) (h : nc u) : nc U := fun q hq => va_Nc.moved hvm (h q hq)
def pwl (D : va_G) (W : va_W) (K : List (ClassId × FieldType)) (As : List Value) (sz : Nat) : Array Value → State → Prop := fun v U => pwx D W K As sz v U ∧ nc U
theorem pwl_pre {s : State} {H : Heap} {D : va_G} {W : va_W} {K : List (ClassId × FieldType)} {AA : Nat → Prop} {As : List Value} {locs : List Loc} (hP : va_P D vwC W H) (hK : va_K D vwC K s) (hD : va_D AA W) (hN : nw s) (hX : nx s) (hZ : zq AA s s.heap) (hC : nc s) (hS : va_S AA s.heap H locs) (hF : ∀ q, va_A W H.size q → AA q) :
    PreS s H (pwl D W K As H.size) As := by
  obtain ⟨h1, h3⟩ := pw_preS (As := As) hP hK hD hN
  exact ⟨fun a U g mk q => ⟨⟨h1 a U g mk q.1.1, nx_vm (u := U) (U := U.calling g mk a) rfl q.1.2.1, zq_call q.1.2.2⟩, nc_moved (u := U) (U := U.calling g mk a) (Vm.Alike.refl U.vm) q.2⟩, fun U hU hW => ⟨⟨h3 U hU hW, nx_warm hW hX, zq_at hZ hS hF hU hW⟩, nc_moved hW.alike hC⟩⟩
theorem xm_0 : (Jvm.Cond.castable "java/lang/IndexOutOfBoundsException" "java/lang/IndexOutOfBoundsException") ∈ nxl := List.mem_of_getElem? (i := 0) rfl
theorem xm_1 : (Jvm.Cond.declares ({ cls := "java/lang/RuntimeException", name := "<init>", desc := "()V" } : Jvm.MethodName)) ∈ nxl := List.mem_of_getElem? (i := 1) rfl
theorem xm_2 : (Jvm.Cond.declares ({ cls := "java/lang/RuntimeException", name := "<init>", desc := "(Ljava/lang/String;)V" } : Jvm.MethodName)) ∈ nxl := List.mem_of_getElem? (i := 2) rfl
theorem xm_3 : (Jvm.Cond.declares ({ cls := "java/lang/Exception", name := "<init>", desc := "()V" } : Jvm.MethodName)) ∈ nxl := List.mem_of_getElem? (i := 3) rfl
theorem xm_4 : (Jvm.Cond.declares ({ cls := "java/lang/Exception", name := "<init>", desc := "(Ljava/lang/String;)V" } : Jvm.MethodName)) ∈ nxl := List.mem_of_getElem? (i := 4) rfl
theorem xm_5 : (Jvm.Cond.declares ({ cls := "java/lang/Throwable", name := "<init>", desc := "()V" } : Jvm.MethodName)) ∈ nxl := List.mem_of_getElem? (i := 5) rfl
theorem xm_6 : (Jvm.Cond.declares ({ cls := "java/lang/Throwable", name := "<init>", desc := "(Ljava/lang/String;)V" } : Jvm.MethodName)) ∈ nxl := List.mem_of_getElem? (i := 6) rfl
theorem xm_7 : (Jvm.Cond.castable "java/lang/IllegalArgumentException" "java/lang/IllegalArgumentException") ∈ nxl := List.mem_of_getElem? (i := 7) rfl
theorem xm_8 : (Jvm.Cond.castable "java/util/NoSuchElementException" "java/util/NoSuchElementException") ∈ nxl := List.mem_of_getElem? (i := 8) rfl
theorem xm_9 : (Jvm.Cond.castable "java/lang/IllegalStateException" "java/lang/IllegalStateException") ∈ nxl := List.mem_of_getElem? (i := 9) rfl
theorem xm_10 : (Jvm.Cond.castable "java/lang/UnsupportedOperationException" "java/lang/UnsupportedOperationException") ∈ nxl := List.mem_of_getElem? (i := 10) rfl
theorem xp_0 : ("java/lang/IllegalArgumentException", "java/lang/IndexOutOfBoundsException") ∈ ncl := List.mem_of_getElem? (i := 0) rfl
theorem xp_1 : ("java/util/NoSuchElementException", "java/lang/IndexOutOfBoundsException") ∈ ncl := List.mem_of_getElem? (i := 1) rfl
theorem xp_2 : ("java/lang/IllegalStateException", "java/lang/IndexOutOfBoundsException") ∈ ncl := List.mem_of_getElem? (i := 2) rfl
theorem xp_3 : ("java/lang/UnsupportedOperationException", "java/lang/IndexOutOfBoundsException") ∈ ncl := List.mem_of_getElem? (i := 3) rfl
theorem xp_4 : ("java/lang/IndexOutOfBoundsException", "java/lang/IllegalArgumentException") ∈ ncl := List.mem_of_getElem? (i := 4) rfl
theorem xp_5 : ("java/util/NoSuchElementException", "java/lang/IllegalArgumentException") ∈ ncl := List.mem_of_getElem? (i := 5) rfl
theorem xp_6 : ("java/lang/IllegalStateException", "java/lang/IllegalArgumentException") ∈ ncl := List.mem_of_getElem? (i := 6) rfl
theorem xp_7 : ("java/lang/UnsupportedOperationException", "java/lang/IllegalArgumentException") ∈ ncl := List.mem_of_getElem? (i := 7) rfl
theorem xp_8 : ("java/lang/IndexOutOfBoundsException", "java/util/NoSuchElementException") ∈ ncl := List.mem_of_getElem? (i := 8) rfl
theorem xp_9 : ("java/lang/IllegalArgumentException", "java/util/NoSuchElementException") ∈ ncl := List.mem_of_getElem? (i := 9) rfl
theorem xp_10 : ("java/lang/IllegalStateException", "java/util/NoSuchElementException") ∈ ncl := List.mem_of_getElem? (i := 10) rfl
theorem xp_11 : ("java/lang/UnsupportedOperationException", "java/util/NoSuchElementException") ∈ ncl := List.mem_of_getElem? (i := 11) rfl
theorem xp_12 : ("java/lang/IndexOutOfBoundsException", "java/lang/IllegalStateException") ∈ ncl := List.mem_of_getElem? (i := 12) rfl
theorem xp_13 : ("java/lang/IllegalArgumentException", "java/lang/IllegalStateException") ∈ ncl := List.mem_of_getElem? (i := 13) rfl
theorem xp_14 : ("java/util/NoSuchElementException", "java/lang/IllegalStateException") ∈ ncl := List.mem_of_getElem? (i := 14) rfl
theorem xp_15 : ("java/lang/UnsupportedOperationException", "java/lang/IllegalStateException") ∈ ncl := List.mem_of_getElem? (i := 15) rfl
theorem xp_16 : ("java/lang/IndexOutOfBoundsException", "java/lang/UnsupportedOperationException") ∈ ncl := List.mem_of_getElem? (i := 16) rfl
theorem xp_17 : ("java/lang/IllegalArgumentException", "java/lang/UnsupportedOperationException") ∈ ncl := List.mem_of_getElem? (i := 17) rfl
theorem xp_18 : ("java/util/NoSuchElementException", "java/lang/UnsupportedOperationException") ∈ ncl := List.mem_of_getElem? (i := 18) rfl
theorem xp_19 : ("java/lang/IllegalStateException", "java/lang/UnsupportedOperationException") ∈ ncl := List.mem_of_getElem? (i := 19) rfl
def f_L_secret (g0 : sX) (a0 : Int32) (a1 : Int32) : Option (Int32 × sX) := Option.bind (f_K_secret g0.1 a0 a1) (fun x1 => match x1 with | .error (E1, gE) => (if E1 = "java/lang/IndexOutOfBoundsException" then some (1, (gE, g0.2)) else if E1 = "java/lang/IllegalArgumentException" then some (2, (gE, g0.2)) else none) | .ok (r1, g1) => (some (0, (g1, (vp_updL g0.2 (Int32.toNatClampNeg 0) r1)))))
abbrev rm_L_secret : Room := { frames := 8, cells := 1, slots := 6, locals := 142 }
set_option maxHeartbeats 4000000 in
set_option maxRecDepth 100000 in
theorem k_L_secret (l : Launch) (hl0 : l.stackTraces = false) (D : va_G) (A : Nat → Nat) (cc : Nat → ClassId) (g0 : sX) (a0 : Int32) (a1 : Int32) (sz : Nat) (res : Int32 × sX) (hF : f_L_secret g0 a0 a1 = some res) : Met l y_L_secret (Cond.codeWith y_L_secret b_L_secret 5 (some .int) [(0, 9, 12, 13), (0, 9, 16, 15)] :: wa) rm_L_secret (pwl D (wX A cc g0) (kX cc) [.ref (A 0), .int a0, .int a1, .ref (A 10)] sz) (va_Qi (fun r u => (r, u) = res) (bw D (wX A cc) (kX cc) (va_A (wX A cc g0) sz)) (va_A (wX A cc g0) sz)) 1 6 (va_A (wX A cc g0) sz) := by
  refine va_MetW (cc := b_L_secret) (maxL := 5) (ret := some .int) (hh := [(0, 9, 12, 13), (0, 9, 16, 15)]) (by decide) rfl ?_
  intro p e s m args below meth c s₁ B hml hv
  obtain ⟨⟨⟨rfl, hsz, hP, hK, hD0, hN⟩, hX, hZ⟩, hC⟩ := hv
  have hx := B.exec
  have hb := B.bytes
  have hr := B.returns
  have hts := atoms_spec (ws := Cond.codeWith y_L_secret b_L_secret 5 (some .int) [(0, 9, 12, 13), (0, 9, 16, 15)] :: wa) B.pre
  have hw : ∀ w ∈ wa, w.before _ s = true := fun w h => hts w (List.mem_cons_of_mem _ h)
  have hown : s.vm.findClass R_L = some m.cls := findClass_of_methodNamed B.named
  have hlocks := B.notSynchronized
  have htab : c.exceptionTable.toList = [⟨0, 9, 12, 13⟩, ⟨0, 9, 16, 15⟩] := vx_table (x := y_L_secret) B (hts _ List.mem_cons_self)
  subst hsz
  have hD := hD0.self (sz := s.heap.size)
  generalize hAe : va_A (wX A cc g0) s.heap.size = AA at hD hZ ⊢
  have hA : ∀ q : Nat, s.heap.size ≤ q → AA q := fun q h => by rw [← hAe]; exact Or.inr h
  have hS : va_S AA s.heap s.heap [] := va_S.rf
  have hl := lv_entry ([.ref (A 0), .int a0, .int a1, .ref (A 10)]) (n := 5) (Nat.le_of_ble_eq_true rfl)
  rw [lg_entry_eq]
  generalize (lg_sl ([.ref (A 0), .int a0, .int a1, .ref (A 10)]) ++ List.replicate (5 - (lg_sl ([.ref (A 0), .int a0, .int a1, .ref (A 10)])).length) Slot.unset).toArray = ls at hl ⊢
  have hl : lv_has ls 5 [(0, .ref (A 0)), (1, .int a0), (2, .int a1), (3, .ref (A 10))] := hl
  unfold f_L_secret at hF
  obtain ⟨x1, e1, hF⟩ := Option.bind_eq_some_iff.mp hF
  refine lv_aload_n hx hb d_L_secret_0 rfl (lv_at hl 3 rfl) ?_
  refine lv_iconst (v := 0) hx hb d_L_secret_1 (by decide) ?_
  refine lv_aload_n hx hb d_L_secret_2 rfl (lv_at hl 0 rfl) ?_
  refine lv_iload_n hx hb d_L_secret_3 rfl (lv_at hl 1 rfl) ?_
  refine lv_iload_n hx hb d_L_secret_4 rfl (lv_at hl 2 rfl) ?_
  have hPc := hP.sub (ws' := wK A cc g0.1) [0, 1, 2, 3, 4, 5, 6, 7, 8, 9] rfl
  have hDc := hD.sub (ws' := wK A cc g0.1) [0, 1, 2, 3, 4, 5, 6, 7, 8, 9] (by decide) rfl
  have hKc := hK.sub (tys' := kK cc) [0, 1, 2, 3, 4, 5, 6] rfl
  have hFc := va_free (wc := wK A cc g0.1) hD hS hA [0, 1, 2, 3, 4, 5, 6, 7, 8, 9] rfl
  rcases x1 with ⟨E1, gE⟩ | ⟨r1, g1⟩
  · refine vx_calll (vx_runV (As := [.int a0, .int a1]) (rest := [.int 0, .ref (A 10)]) ⟨hx, hb, hml, hown, hts⟩ (k_K_secret_er l hl0 D A cc g0.1 a0 a1 _ _ _ e1) (cwV 2 hts (ga_V ww_221 ww_222 ww_223 ww_1 ww_224) rfl rfl rfl (by decide +kernel) ⟨by decide, by decide⟩) (pwx_pre (q0 := 0) (ci := 2) hPc hKc hDc hN hX hZ hS hFc rfl rfl) rfl rfl hl.1 rfl (lv_room (Nat.le_of_ble_eq_true rfl)) d_L_secret_5 ⟨Nat.le_of_ble_eq_true rfl, Nat.le_of_ble_eq_true rfl⟩) hS (fun q _ h => hFc q h) hFc (fun q _ h => hFc q h) (fun E ce q9 u t H1 locs ht hvm hpx hBX hz hk hS hce hcv hcl => ?_) (fun r9 u t H1 locs _ _ hp _ _ _ _ => hp.elim)
    obtain rfl : gE = u := hpx.symm
    obtain ⟨hEE, hB⟩ := hBX
    have hcl : s.vm.findClass E1 = some ce.cls := hEE ▸ hcl
    obtain ⟨hP1, hK1, hD1⟩ := hB
    rw [ht] at hP1
    obtain ⟨hP, hD⟩ := va_join (wr := [(A 10, .inl (cc 10, 1, .inr (.inl g0.2)))]) (w1 := wK A cc gE) hP hD [0, 1, 2, 3, 4, 5, 6, 7, 8, 9] [10] rfl rfl (by decide) (by decide) hk hFc hP1 hD1
    have hP := hP.sub (ws' := wX A cc (gE, g0.2)) [1, 2, 3, 4, 5, 6, 7, 8, 9, 10, 0] rfl
    have hD := hD.sub (ws' := wX A cc (gE, g0.2)) [1, 2, 3, 4, 5, 6, 7, 8, 9, 10, 0] (by decide) rfl
    by_cases h0 : E1 = "java/lang/IndexOutOfBoundsException"
    · have hF := (if_pos h0).symm.trans hF
      subst h0
      refine vx_catch (name := "java/lang/IndexOutOfBoundsException") hown [] ⟨0, 9, 12, 13⟩ [⟨0, 9, 16, 15⟩] htab (fun z hz => nomatch hz) (by decide) (by decide) (hw _ ww_219) (va_Nw.use rfl (hX _ xm_0)) hce hcv hcl ?_
      refine lv_astore hx hb d_L_secret_12 hl (by decide) (lv' := [(4, .ref q9), (0, .ref (A 0)), (1, .int a0), (2, .int a1), (3, .ref (A 10))]) rfl (fun ls hl => ?_)
      refine lv_iconst (v := 1) hx hb d_L_secret_14 (by decide) ?_
      obtain rfl := Option.some.inj hF
      exact W.iret hx hb hr (fun t ht hW => ⟨⟨_, _, rfl, rfl, bw_end hP hK hD ht hW⟩, hS.F ht⟩) hS.2.2 d_L_secret_15
    have hF := (if_neg h0).symm.trans hF
    by_cases h1 : E1 = "java/lang/IllegalArgumentException"
    · have hF := (if_pos h1).symm.trans hF
      subst h1
      refine vx_catch (name := "java/lang/IllegalArgumentException") hown [⟨0, 9, 12, 13⟩] ⟨0, 9, 16, 15⟩ [] htab (fun z hz => by
        simp only [List.mem_cons, List.not_mem_nil, or_false] at hz
        rcases hz with rfl
        · exact Or.inr ⟨by decide, "java/lang/IndexOutOfBoundsException", hw _ ww_219, hC _ xp_0⟩) (by decide) (by decide) (hw _ ww_220) (va_Nw.use rfl (hX _ xm_7)) hce hcv hcl ?_
      refine lv_astore hx hb d_L_secret_16 hl (by decide) (lv' := [(4, .ref q9), (0, .ref (A 0)), (1, .int a0), (2, .int a1), (3, .ref (A 10))]) rfl (fun ls hl => ?_)
      refine lv_iconst (v := 2) hx hb d_L_secret_18 (by decide) ?_
      obtain rfl := Option.some.inj hF
      exact W.iret hx hb hr (fun t ht hW => ⟨⟨_, _, rfl, rfl, bw_end hP hK hD ht hW⟩, hS.F ht⟩) hS.2.2 d_L_secret_19
    have hF := (if_neg h1).symm.trans hF
    cases hF
  refine va_calll (va_runV (As := [.int a0, .int a1]) (rest := [.int 0, .ref (A 10)]) ⟨hx, hb, hml, hown, hts⟩ (k_K_secret_ok l D A cc g0.1 a0 a1 _ (r1, g1) e1) (cwV 2 hts (ga_V ww_221 ww_222 ww_223 ww_1 ww_224) rfl rfl rfl (by decide +kernel) ⟨by decide, by decide⟩) (pw_pre (q0 := 0) (ci := 2) hPc hKc hDc hN rfl rfl) rfl rfl hl.1 rfl (lv_room (Nat.le_of_ble_eq_true rfl)) d_L_secret_5 ⟨Nat.zero_le _, Nat.zero_le _⟩) hS (fun q _ h => hFc q h) hFc (fun r9 u9 t H1 locs ht hvm hp hB hz1 hk1 hS => ?_)
  obtain ⟨rfl, rfl⟩ := Prod.mk.inj hp.symm
  obtain ⟨hP1, hK1, hD1⟩ := hB
  rw [ht] at hP1
  obtain ⟨hP, hD⟩ := va_join (wr := [(A 10, .inl (cc 10, 1, .inr (.inl g0.2)))]) (w1 := wK A cc g1) hP hD [0, 1, 2, 3, 4, 5, 6, 7, 8, 9] [10] rfl rfl (by decide) (by decide) hk1 hFc hP1 hD1
  have hP := hP.sub (ws' := wX A cc (g1, g0.2)) [1, 2, 3, 4, 5, 6, 7, 8, 9, 10, 0] rfl
  have hD := hD.sub (ws' := wX A cc (g1, g0.2)) [1, 2, 3, 4, 5, 6, 7, 8, 9, 10, 0] (by decide) rfl
  refine va_last hx hb hK hP hD hS 10 7 rfl rfl (show vp_in 0 1 by unfold vp_in; decide) d_L_secret_8 (fun H locs hP hD hS => ?_)
  have hP : va_P D vwC (wX A cc (g1, (vp_updL g0.2 (Int32.toNatClampNeg 0) r1))) H := hP
  have hD : va_D AA (wX A cc (g1, (vp_updL g0.2 (Int32.toNatClampNeg 0) r1))) := hD
  refine lv_goto hx hb d_L_secret_9 (tgt := 20) (by decide) ?_
  refine lv_iconst (v := 0) hx hb d_L_secret_20 (by decide) ?_
  obtain rfl := Option.some.inj hF
  refine W.widen (k := 1) (n := 6) (Nat.le_of_ble_eq_true rfl) (Nat.le_of_ble_eq_true rfl) ?_
  exact W.iret hx hb hr (fun t ht hW => ⟨⟨_, _, rfl, rfl, bw_end hP hK hD ht hW⟩, hS.F ht⟩) hS.2.2 d_L_secret_21
def f_L_open (g0 : sX) (a0 : Int32) (a1 : Int64) : Option (Int32 × sX) := Option.bind (f_K_open g0.1 a0 a1) (fun x1 => match x1 with | .error (E1, gE) => (if E1 = "java/lang/IndexOutOfBoundsException" then some (1, (gE, g0.2)) else if E1 = "java/lang/IllegalArgumentException" then some (2, (gE, g0.2)) else none) | .ok g1 => (some (0, (g1, g0.2))))
abbrev rm_L_open : Room := { frames := 8, cells := 1, slots := 6, locals := 135 }
set_option maxHeartbeats 4000000 in
set_option maxRecDepth 100000 in
theorem k_L_open (l : Launch) (hl0 : l.stackTraces = false) (D : va_G) (A : Nat → Nat) (cc : Nat → ClassId) (g0 : sX) (a0 : Int32) (a1 : Int64) (sz : Nat) (res : Int32 × sX) (hF : f_L_open g0 a0 a1 = some res) : Met l y_L_open (Cond.codeWith y_L_open b_L_open 5 (some .int) [(0, 6, 9, 13), (0, 6, 13, 15)] :: wa) rm_L_open (pwl D (wX A cc g0) (kX cc) [.ref (A 0), .int a0, .long a1] sz) (va_Qi (fun r u => (r, u) = res) (bw D (wX A cc) (kX cc) (va_A (wX A cc g0) sz)) (va_A (wX A cc g0) sz)) 1 6 (va_A (wX A cc g0) sz) := by
  refine va_MetW (cc := b_L_open) (maxL := 5) (ret := some .int) (hh := [(0, 6, 9, 13), (0, 6, 13, 15)]) (by decide) rfl ?_
  intro p e s m args below meth c s₁ B hml hv
  obtain ⟨⟨⟨rfl, hsz, hP, hK, hD0, hN⟩, hX, hZ⟩, hC⟩ := hv
  have hx := B.exec
  have hb := B.bytes
  have hr := B.returns
  have hts := atoms_spec (ws := Cond.codeWith y_L_open b_L_open 5 (some .int) [(0, 6, 9, 13), (0, 6, 13, 15)] :: wa) B.pre
  have hw : ∀ w ∈ wa, w.before _ s = true := fun w h => hts w (List.mem_cons_of_mem _ h)
  have hown : s.vm.findClass R_L = some m.cls := findClass_of_methodNamed B.named
  have hlocks := B.notSynchronized
  have htab : c.exceptionTable.toList = [⟨0, 6, 9, 13⟩, ⟨0, 6, 13, 15⟩] := vx_table (x := y_L_open) B (hts _ List.mem_cons_self)
  subst hsz
  have hD := hD0.self (sz := s.heap.size)
  generalize hAe : va_A (wX A cc g0) s.heap.size = AA at hD hZ ⊢
  have hA : ∀ q : Nat, s.heap.size ≤ q → AA q := fun q h => by rw [← hAe]; exact Or.inr h
  have hS : va_S AA s.heap s.heap [] := va_S.rf
  have hl := lv_entry ([.ref (A 0), .int a0, .long a1]) (n := 5) (Nat.le_of_ble_eq_true rfl)
  rw [lg_entry_eq]
  generalize (lg_sl ([.ref (A 0), .int a0, .long a1]) ++ List.replicate (5 - (lg_sl ([.ref (A 0), .int a0, .long a1])).length) Slot.unset).toArray = ls at hl ⊢
  have hl : lv_has ls 5 [(0, .ref (A 0)), (1, .int a0), (2, .long a1)] := hl
  unfold f_L_open at hF
  obtain ⟨x1, e1, hF⟩ := Option.bind_eq_some_iff.mp hF
  refine lv_aload_n hx hb d_L_open_0 rfl (lv_at hl 0 rfl) ?_
  refine lv_iload_n hx hb d_L_open_1 rfl (lv_at hl 1 rfl) ?_
  refine lv_lload_n hx hb d_L_open_2 rfl (lv_at hl 2 rfl) ?_
  have hPc := hP.sub (ws' := wK A cc g0.1) [0, 1, 2, 3, 4, 5, 6, 7, 8, 9] rfl
  have hDc := hD.sub (ws' := wK A cc g0.1) [0, 1, 2, 3, 4, 5, 6, 7, 8, 9] (by decide) rfl
  have hKc := hK.sub (tys' := kK cc) [0, 1, 2, 3, 4, 5, 6] rfl
  have hFc := va_free (wc := wK A cc g0.1) hD hS hA [0, 1, 2, 3, 4, 5, 6, 7, 8, 9] rfl
  rcases x1 with ⟨E1, gE⟩ | g1
  · refine vx_callv (vx_runV (As := [.int a0, .long a1]) (rest := []) ⟨hx, hb, hml, hown, hts⟩ (k_K_open_er l hl0 D A cc g0.1 a0 a1 _ _ _ e1) (cwV 2 hts (ga_V ww_323 ww_324 ww_325 ww_1 ww_326) rfl rfl rfl (by decide +kernel) ⟨by decide, by decide⟩) (pwx_pre (q0 := 0) (ci := 2) hPc hKc hDc hN hX hZ hS hFc rfl rfl) rfl rfl hl.1 rfl (lv_room (Nat.le_of_ble_eq_true rfl)) d_L_open_3 ⟨Nat.le_of_ble_eq_true rfl, Nat.le_of_ble_eq_true rfl⟩) hS (fun q _ h => hFc q h) hFc (fun q _ h => hFc q h) (fun E ce q9 u t H1 locs ht hvm hpx hBX hz hk hS hce hcv hcl => ?_) (fun u t H1 locs _ _ hp _ _ _ _ => hp.elim)
    obtain rfl : gE = u := hpx.symm
    obtain ⟨hEE, hB⟩ := hBX
    have hcl : s.vm.findClass E1 = some ce.cls := hEE ▸ hcl
    obtain ⟨hP1, hK1, hD1⟩ := hB
    rw [ht] at hP1
    obtain ⟨hP, hD⟩ := va_join (wr := [(A 10, .inl (cc 10, 1, .inr (.inl g0.2)))]) (w1 := wK A cc gE) hP hD [0, 1, 2, 3, 4, 5, 6, 7, 8, 9] [10] rfl rfl (by decide) (by decide) hk hFc hP1 hD1
    have hP := hP.sub (ws' := wX A cc (gE, g0.2)) [1, 2, 3, 4, 5, 6, 7, 8, 9, 10, 0] rfl
    have hD := hD.sub (ws' := wX A cc (gE, g0.2)) [1, 2, 3, 4, 5, 6, 7, 8, 9, 10, 0] (by decide) rfl
    by_cases h0 : E1 = "java/lang/IndexOutOfBoundsException"
    · have hF := (if_pos h0).symm.trans hF
      subst h0
      refine vx_catch (name := "java/lang/IndexOutOfBoundsException") hown [] ⟨0, 6, 9, 13⟩ [⟨0, 6, 13, 15⟩] htab (fun z hz => nomatch hz) (by decide) (by decide) (hw _ ww_219) (va_Nw.use rfl (hX _ xm_0)) hce hcv hcl ?_
      refine lv_astore hx hb d_L_open_9 hl (by decide) (lv' := [(4, .ref q9), (0, .ref (A 0)), (1, .int a0), (2, .long a1)]) rfl (fun ls hl => ?_)
      refine lv_iconst (v := 1) hx hb d_L_open_11 (by decide) ?_
      obtain rfl := Option.some.inj hF
      exact W.iret hx hb hr (fun t ht hW => ⟨⟨_, _, rfl, rfl, bw_end hP hK hD ht hW⟩, hS.F ht⟩) hS.2.2 d_L_open_12
    have hF := (if_neg h0).symm.trans hF
    by_cases h1 : E1 = "java/lang/IllegalArgumentException"
    · have hF := (if_pos h1).symm.trans hF
      subst h1
      refine vx_catch (name := "java/lang/IllegalArgumentException") hown [⟨0, 6, 9, 13⟩] ⟨0, 6, 13, 15⟩ [] htab (fun z hz => by
        simp only [List.mem_cons, List.not_mem_nil, or_false] at hz
        rcases hz with rfl
        · exact Or.inr ⟨by decide, "java/lang/IndexOutOfBoundsException", hw _ ww_219, hC _ xp_0⟩) (by decide) (by decide) (hw _ ww_220) (va_Nw.use rfl (hX _ xm_7)) hce hcv hcl ?_
      refine lv_astore hx hb d_L_open_13 hl (by decide) (lv' := [(4, .ref q9), (0, .ref (A 0)), (1, .int a0), (2, .long a1)]) rfl (fun ls hl => ?_)
      refine lv_iconst (v := 2) hx hb d_L_open_15 (by decide) ?_
      obtain rfl := Option.some.inj hF
      exact W.iret hx hb hr (fun t ht hW => ⟨⟨_, _, rfl, rfl, bw_end hP hK hD ht hW⟩, hS.F ht⟩) hS.2.2 d_L_open_16
    have hF := (if_neg h1).symm.trans hF
    cases hF
  refine va_callv (va_runV (As := [.int a0, .long a1]) (rest := []) ⟨hx, hb, hml, hown, hts⟩ (k_K_open_ok l D A cc g0.1 a0 a1 _ g1 e1) (cwV 2 hts (ga_V ww_323 ww_324 ww_325 ww_1 ww_326) rfl rfl rfl (by decide +kernel) ⟨by decide, by decide⟩) (pw_pre (q0 := 0) (ci := 2) hPc hKc hDc hN rfl rfl) rfl rfl hl.1 rfl (lv_room (Nat.le_of_ble_eq_true rfl)) d_L_open_3 ⟨Nat.zero_le _, Nat.zero_le _⟩) hS (fun q _ h => hFc q h) hFc (fun u9 t H1 locs ht hvm hp hB hz1 hk1 hS => ?_)
  obtain rfl : g1 = u9 := hp.symm
  obtain ⟨hP1, hK1, hD1⟩ := hB
  rw [ht] at hP1
  obtain ⟨hP, hD⟩ := va_join (wr := [(A 10, .inl (cc 10, 1, .inr (.inl g0.2)))]) (w1 := wK A cc g1) hP hD [0, 1, 2, 3, 4, 5, 6, 7, 8, 9] [10] rfl rfl (by decide) (by decide) hk1 hFc hP1 hD1
  have hP := hP.sub (ws' := wX A cc (g1, g0.2)) [1, 2, 3, 4, 5, 6, 7, 8, 9, 10, 0] rfl
  have hD := hD.sub (ws' := wX A cc (g1, g0.2)) [1, 2, 3, 4, 5, 6, 7, 8, 9, 10, 0] (by decide) rfl
  refine lv_goto hx hb d_L_open_6 (tgt := 17) (by decide) ?_
  refine lv_iconst (v := 0) hx hb d_L_open_17 (by decide) ?_
  obtain rfl := Option.some.inj hF
  refine W.widen (k := 1) (n := 6) (Nat.le_of_ble_eq_true rfl) (Nat.le_of_ble_eq_true rfl) ?_
  exact W.iret hx hb hr (fun t ht hW => ⟨⟨_, _, rfl, rfl, bw_end hP hK hD ht hW⟩, hS.F ht⟩) hS.2.2 d_L_open_18
def f_L_code (g0 : sX) (a0 : Int32) : Option (Int32 × sX) := Option.bind (f_K_code g0.1 a0) (fun x1 => match x1 with | .error (E1, gE) => (if E1 = "java/lang/IndexOutOfBoundsException" then some (1, (gE, g0.2)) else none) | .ok (r1, g1) => (some (0, (g1, (vp_updL g0.2 (Int32.toNatClampNeg 0) r1)))))
abbrev rm_L_code : Room := { frames := 8, cells := 1, slots := 6, locals := 131 }
set_option maxHeartbeats 4000000 in
set_option maxRecDepth 100000 in
theorem k_L_code (l : Launch) (hl0 : l.stackTraces = false) (D : va_G) (A : Nat → Nat) (cc : Nat → ClassId) (g0 : sX) (a0 : Int32) (sz : Nat) (res : Int32 × sX) (hF : f_L_code g0 a0 = some res) : Met l y_L_code (Cond.codeWith y_L_code b_L_code 4 (some .int) [(0, 8, 11, 13)] :: wa) rm_L_code (pwl D (wX A cc g0) (kX cc) [.ref (A 0), .int a0, .ref (A 10)] sz) (va_Qi (fun r u => (r, u) = res) (bw D (wX A cc) (kX cc) (va_A (wX A cc g0) sz)) (va_A (wX A cc g0) sz)) 1 6 (va_A (wX A cc g0) sz) := by
  refine va_MetW (cc := b_L_code) (maxL := 4) (ret := some .int) (hh := [(0, 8, 11, 13)]) (by decide) rfl ?_
  intro p e s m args below meth c s₁ B hml hv
  obtain ⟨⟨⟨rfl, hsz, hP, hK, hD0, hN⟩, hX, hZ⟩, hC⟩ := hv
  have hx := B.exec
  have hb := B.bytes
  have hr := B.returns
  have hts := atoms_spec (ws := Cond.codeWith y_L_code b_L_code 4 (some .int) [(0, 8, 11, 13)] :: wa) B.pre
  have hw : ∀ w ∈ wa, w.before _ s = true := fun w h => hts w (List.mem_cons_of_mem _ h)
  have hown : s.vm.findClass R_L = some m.cls := findClass_of_methodNamed B.named
  have hlocks := B.notSynchronized
  have htab : c.exceptionTable.toList = [⟨0, 8, 11, 13⟩] := vx_table (x := y_L_code) B (hts _ List.mem_cons_self)
  subst hsz
  have hD := hD0.self (sz := s.heap.size)
  generalize hAe : va_A (wX A cc g0) s.heap.size = AA at hD hZ ⊢
  have hA : ∀ q : Nat, s.heap.size ≤ q → AA q := fun q h => by rw [← hAe]; exact Or.inr h
  have hS : va_S AA s.heap s.heap [] := va_S.rf
  have hl := lv_entry ([.ref (A 0), .int a0, .ref (A 10)]) (n := 4) (Nat.le_of_ble_eq_true rfl)
  rw [lg_entry_eq]
  generalize (lg_sl ([.ref (A 0), .int a0, .ref (A 10)]) ++ List.replicate (4 - (lg_sl ([.ref (A 0), .int a0, .ref (A 10)])).length) Slot.unset).toArray = ls at hl ⊢
  have hl : lv_has ls 4 [(0, .ref (A 0)), (1, .int a0), (2, .ref (A 10))] := hl
  unfold f_L_code at hF
  obtain ⟨x1, e1, hF⟩ := Option.bind_eq_some_iff.mp hF
  refine lv_aload_n hx hb d_L_code_0 rfl (lv_at hl 2 rfl) ?_
  refine lv_iconst (v := 0) hx hb d_L_code_1 (by decide) ?_
  refine lv_aload_n hx hb d_L_code_2 rfl (lv_at hl 0 rfl) ?_
  refine lv_iload_n hx hb d_L_code_3 rfl (lv_at hl 1 rfl) ?_
  have hPc := hP.sub (ws' := wK A cc g0.1) [0, 1, 2, 3, 4, 5, 6, 7, 8, 9] rfl
  have hDc := hD.sub (ws' := wK A cc g0.1) [0, 1, 2, 3, 4, 5, 6, 7, 8, 9] (by decide) rfl
  have hKc := hK.sub (tys' := kK cc) [0, 1, 2, 3, 4, 5, 6] rfl
  have hFc := va_free (wc := wK A cc g0.1) hD hS hA [0, 1, 2, 3, 4, 5, 6, 7, 8, 9] rfl
  rcases x1 with ⟨E1, gE⟩ | ⟨r1, g1⟩
  · refine vx_calll (vx_runV (As := [.int a0]) (rest := [.int 0, .ref (A 10)]) ⟨hx, hb, hml, hown, hts⟩ (k_K_code_er l hl0 D A cc g0.1 a0 _ _ _ e1) (cwV 1 hts (ga_V ww_334 ww_335 ww_336 ww_1 ww_337) rfl rfl rfl (by decide +kernel) ⟨by decide, by decide⟩) (pwx_pre (q0 := 0) (ci := 2) hPc hKc hDc hN hX hZ hS hFc rfl rfl) rfl rfl hl.1 rfl (lv_room (Nat.le_of_ble_eq_true rfl)) d_L_code_4 ⟨Nat.le_of_ble_eq_true rfl, Nat.le_of_ble_eq_true rfl⟩) hS (fun q _ h => hFc q h) hFc (fun q _ h => hFc q h) (fun E ce q9 u t H1 locs ht hvm hpx hBX hz hk hS hce hcv hcl => ?_) (fun r9 u t H1 locs _ _ hp _ _ _ _ => hp.elim)
    obtain rfl : gE = u := hpx.symm
    obtain ⟨hEE, hB⟩ := hBX
    have hcl : s.vm.findClass E1 = some ce.cls := hEE ▸ hcl
    obtain ⟨hP1, hK1, hD1⟩ := hB
    rw [ht] at hP1
    obtain ⟨hP, hD⟩ := va_join (wr := [(A 10, .inl (cc 10, 1, .inr (.inl g0.2)))]) (w1 := wK A cc gE) hP hD [0, 1, 2, 3, 4, 5, 6, 7, 8, 9] [10] rfl rfl (by decide) (by decide) hk hFc hP1 hD1
    have hP := hP.sub (ws' := wX A cc (gE, g0.2)) [1, 2, 3, 4, 5, 6, 7, 8, 9, 10, 0] rfl
    have hD := hD.sub (ws' := wX A cc (gE, g0.2)) [1, 2, 3, 4, 5, 6, 7, 8, 9, 10, 0] (by decide) rfl
    by_cases h0 : E1 = "java/lang/IndexOutOfBoundsException"
    · have hF := (if_pos h0).symm.trans hF
      subst h0
      refine vx_catch (name := "java/lang/IndexOutOfBoundsException") hown [] ⟨0, 8, 11, 13⟩ [] htab (fun z hz => nomatch hz) (by decide) (by decide) (hw _ ww_219) (va_Nw.use rfl (hX _ xm_0)) hce hcv hcl ?_
      refine lv_astore_n hx hb d_L_code_11 rfl hl (by decide) (lv' := [(3, .ref q9), (0, .ref (A 0)), (1, .int a0), (2, .ref (A 10))]) rfl (fun ls hl => ?_)
      refine lv_iconst (v := 1) hx hb d_L_code_12 (by decide) ?_
      obtain rfl := Option.some.inj hF
      exact W.iret hx hb hr (fun t ht hW => ⟨⟨_, _, rfl, rfl, bw_end hP hK hD ht hW⟩, hS.F ht⟩) hS.2.2 d_L_code_13
    have hF := (if_neg h0).symm.trans hF
    cases hF
  refine va_calll (va_runV (As := [.int a0]) (rest := [.int 0, .ref (A 10)]) ⟨hx, hb, hml, hown, hts⟩ (k_K_code_ok l D A cc g0.1 a0 _ (r1, g1) e1) (cwV 1 hts (ga_V ww_334 ww_335 ww_336 ww_1 ww_337) rfl rfl rfl (by decide +kernel) ⟨by decide, by decide⟩) (pw_pre (q0 := 0) (ci := 2) hPc hKc hDc hN rfl rfl) rfl rfl hl.1 rfl (lv_room (Nat.le_of_ble_eq_true rfl)) d_L_code_4 ⟨Nat.zero_le _, Nat.zero_le _⟩) hS (fun q _ h => hFc q h) hFc (fun r9 u9 t H1 locs ht hvm hp hB hz1 hk1 hS => ?_)
  obtain ⟨rfl, rfl⟩ := Prod.mk.inj hp.symm
  obtain ⟨hP1, hK1, hD1⟩ := hB
  rw [ht] at hP1
  obtain ⟨hP, hD⟩ := va_join (wr := [(A 10, .inl (cc 10, 1, .inr (.inl g0.2)))]) (w1 := wK A cc g1) hP hD [0, 1, 2, 3, 4, 5, 6, 7, 8, 9] [10] rfl rfl (by decide) (by decide) hk1 hFc hP1 hD1
  have hP := hP.sub (ws' := wX A cc (g1, g0.2)) [1, 2, 3, 4, 5, 6, 7, 8, 9, 10, 0] rfl
  have hD := hD.sub (ws' := wX A cc (g1, g0.2)) [1, 2, 3, 4, 5, 6, 7, 8, 9, 10, 0] (by decide) rfl
  refine va_last hx hb hK hP hD hS 10 7 rfl rfl (show vp_in 0 1 by unfold vp_in; decide) d_L_code_7 (fun H locs hP hD hS => ?_)
  have hP : va_P D vwC (wX A cc (g1, (vp_updL g0.2 (Int32.toNatClampNeg 0) r1))) H := hP
  have hD : va_D AA (wX A cc (g1, (vp_updL g0.2 (Int32.toNatClampNeg 0) r1))) := hD
  refine lv_goto hx hb d_L_code_8 (tgt := 14) (by decide) ?_
  refine lv_iconst (v := 0) hx hb d_L_code_14 (by decide) ?_
  obtain rfl := Option.some.inj hF
  refine W.widen (k := 1) (n := 6) (Nat.le_of_ble_eq_true rfl) (Nat.le_of_ble_eq_true rfl) ?_
  exact W.iret hx hb hr (fun t ht hW => ⟨⟨_, _, rfl, rfl, bw_end hP hK hD ht hW⟩, hS.F ht⟩) hS.2.2 d_L_code_15
def f_L_tweak (g0 : sX) (a0 : Int32) (a1 : Int32) (a2 : Int32) : Option (Int32 × sX) := Option.bind (f_K_tweak g0.1 a0 a1 a2) (fun x1 => match x1 with | .error (E1, gE) => (if E1 = "java/lang/IndexOutOfBoundsException" then some (1, (gE, g0.2)) else if E1 = "java/util/NoSuchElementException" then some (2, (gE, g0.2)) else if E1 = "java/lang/IllegalArgumentException" then some (3, (gE, g0.2)) else none) | .ok (r1, g1) => (some (0, (g1, (vp_updL g0.2 (Int32.toNatClampNeg 0) r1)))))
abbrev rm_L_tweak : Room := { frames := 8, cells := 1, slots := 6, locals := 147 }
set_option maxHeartbeats 4000000 in
set_option maxRecDepth 100000 in
theorem k_L_tweak (l : Launch) (hl0 : l.stackTraces = false) (D : va_G) (A : Nat → Nat) (cc : Nat → ClassId) (g0 : sX) (a0 : Int32) (a1 : Int32) (a2 : Int32) (sz : Nat) (res : Int32 × sX) (hF : f_L_tweak g0 a0 a1 a2 = some res) : Met l y_L_tweak (Cond.codeWith y_L_tweak b_L_tweak 6 (some .int) [(0, 11, 14, 13), (0, 11, 18, 29), (0, 11, 22, 15)] :: wa) rm_L_tweak (pwl D (wX A cc g0) (kX cc) [.ref (A 0), .int a0, .int a1, .int a2, .ref (A 10)] sz) (va_Qi (fun r u => (r, u) = res) (bw D (wX A cc) (kX cc) (va_A (wX A cc g0) sz)) (va_A (wX A cc g0) sz)) 1 6 (va_A (wX A cc g0) sz) := by
  refine va_MetW (cc := b_L_tweak) (maxL := 6) (ret := some .int) (hh := [(0, 11, 14, 13), (0, 11, 18, 29), (0, 11, 22, 15)]) (by decide) rfl ?_
  intro p e s m args below meth c s₁ B hml hv
  obtain ⟨⟨⟨rfl, hsz, hP, hK, hD0, hN⟩, hX, hZ⟩, hC⟩ := hv
  have hx := B.exec
  have hb := B.bytes
  have hr := B.returns
  have hts := atoms_spec (ws := Cond.codeWith y_L_tweak b_L_tweak 6 (some .int) [(0, 11, 14, 13), (0, 11, 18, 29), (0, 11, 22, 15)] :: wa) B.pre
  have hw : ∀ w ∈ wa, w.before _ s = true := fun w h => hts w (List.mem_cons_of_mem _ h)
  have hown : s.vm.findClass R_L = some m.cls := findClass_of_methodNamed B.named
  have hlocks := B.notSynchronized
  have htab : c.exceptionTable.toList = [⟨0, 11, 14, 13⟩, ⟨0, 11, 18, 29⟩, ⟨0, 11, 22, 15⟩] := vx_table (x := y_L_tweak) B (hts _ List.mem_cons_self)
  subst hsz
  have hD := hD0.self (sz := s.heap.size)
  generalize hAe : va_A (wX A cc g0) s.heap.size = AA at hD hZ ⊢
  have hA : ∀ q : Nat, s.heap.size ≤ q → AA q := fun q h => by rw [← hAe]; exact Or.inr h
  have hS : va_S AA s.heap s.heap [] := va_S.rf
  have hl := lv_entry ([.ref (A 0), .int a0, .int a1, .int a2, .ref (A 10)]) (n := 6) (Nat.le_of_ble_eq_true rfl)
  rw [lg_entry_eq]
  generalize (lg_sl ([.ref (A 0), .int a0, .int a1, .int a2, .ref (A 10)]) ++ List.replicate (6 - (lg_sl ([.ref (A 0), .int a0, .int a1, .int a2, .ref (A 10)])).length) Slot.unset).toArray = ls at hl ⊢
  have hl : lv_has ls 6 [(0, .ref (A 0)), (1, .int a0), (2, .int a1), (3, .int a2), (4, .ref (A 10))] := hl
  unfold f_L_tweak at hF
  obtain ⟨x1, e1, hF⟩ := Option.bind_eq_some_iff.mp hF
  refine lv_aload hx hb d_L_tweak_0 (lv_at hl 4 rfl) ?_
  refine lv_iconst (v := 0) hx hb d_L_tweak_2 (by decide) ?_
  refine lv_aload_n hx hb d_L_tweak_3 rfl (lv_at hl 0 rfl) ?_
  refine lv_iload_n hx hb d_L_tweak_4 rfl (lv_at hl 1 rfl) ?_
  refine lv_iload_n hx hb d_L_tweak_5 rfl (lv_at hl 2 rfl) ?_
  refine lv_iload_n hx hb d_L_tweak_6 rfl (lv_at hl 3 rfl) ?_
  have hPc := hP.sub (ws' := wK A cc g0.1) [0, 1, 2, 3, 4, 5, 6, 7, 8, 9] rfl
  have hDc := hD.sub (ws' := wK A cc g0.1) [0, 1, 2, 3, 4, 5, 6, 7, 8, 9] (by decide) rfl
  have hKc := hK.sub (tys' := kK cc) [0, 1, 2, 3, 4, 5, 6] rfl
  have hFc := va_free (wc := wK A cc g0.1) hD hS hA [0, 1, 2, 3, 4, 5, 6, 7, 8, 9] rfl
  rcases x1 with ⟨E1, gE⟩ | ⟨r1, g1⟩
  · refine vx_calll (vx_runV (As := [.int a0, .int a1, .int a2]) (rest := [.int 0, .ref (A 10)]) ⟨hx, hb, hml, hown, hts⟩ (k_K_tweak_er l hl0 D A cc g0.1 a0 a1 a2 _ _ _ e1) (cwV 3 hts (ga_V ww_342 ww_343 ww_344 ww_1 ww_345) rfl rfl rfl (by decide +kernel) ⟨by decide, by decide⟩) (pwx_pre (q0 := 0) (ci := 2) hPc hKc hDc hN hX hZ hS hFc rfl rfl) rfl rfl hl.1 rfl (lv_room (Nat.le_of_ble_eq_true rfl)) d_L_tweak_7 ⟨Nat.le_of_ble_eq_true rfl, Nat.le_of_ble_eq_true rfl⟩) hS (fun q _ h => hFc q h) hFc (fun q _ h => hFc q h) (fun E ce q9 u t H1 locs ht hvm hpx hBX hz hk hS hce hcv hcl => ?_) (fun r9 u t H1 locs _ _ hp _ _ _ _ => hp.elim)
    obtain rfl : gE = u := hpx.symm
    obtain ⟨hEE, hB⟩ := hBX
    have hcl : s.vm.findClass E1 = some ce.cls := hEE ▸ hcl
    obtain ⟨hP1, hK1, hD1⟩ := hB
    rw [ht] at hP1
    obtain ⟨hP, hD⟩ := va_join (wr := [(A 10, .inl (cc 10, 1, .inr (.inl g0.2)))]) (w1 := wK A cc gE) hP hD [0, 1, 2, 3, 4, 5, 6, 7, 8, 9] [10] rfl rfl (by decide) (by decide) hk hFc hP1 hD1
    have hP := hP.sub (ws' := wX A cc (gE, g0.2)) [1, 2, 3, 4, 5, 6, 7, 8, 9, 10, 0] rfl
    have hD := hD.sub (ws' := wX A cc (gE, g0.2)) [1, 2, 3, 4, 5, 6, 7, 8, 9, 10, 0] (by decide) rfl
    by_cases h0 : E1 = "java/lang/IndexOutOfBoundsException"
    · have hF := (if_pos h0).symm.trans hF
      subst h0
      refine vx_catch (name := "java/lang/IndexOutOfBoundsException") hown [] ⟨0, 11, 14, 13⟩ [⟨0, 11, 18, 29⟩, ⟨0, 11, 22, 15⟩] htab (fun z hz => nomatch hz) (by decide) (by decide) (hw _ ww_219) (va_Nw.use rfl (hX _ xm_0)) hce hcv hcl ?_
      refine lv_astore hx hb d_L_tweak_14 hl (by decide) (lv' := [(5, .ref q9), (0, .ref (A 0)), (1, .int a0), (2, .int a1), (3, .int a2), (4, .ref (A 10))]) rfl (fun ls hl => ?_)
      refine lv_iconst (v := 1) hx hb d_L_tweak_16 (by decide) ?_
      obtain rfl := Option.some.inj hF
      exact W.iret hx hb hr (fun t ht hW => ⟨⟨_, _, rfl, rfl, bw_end hP hK hD ht hW⟩, hS.F ht⟩) hS.2.2 d_L_tweak_17
    have hF := (if_neg h0).symm.trans hF
    by_cases h1 : E1 = "java/util/NoSuchElementException"
    · have hF := (if_pos h1).symm.trans hF
      subst h1
      refine vx_catch (name := "java/util/NoSuchElementException") hown [⟨0, 11, 14, 13⟩] ⟨0, 11, 18, 29⟩ [⟨0, 11, 22, 15⟩] htab (fun z hz => by
        simp only [List.mem_cons, List.not_mem_nil, or_false] at hz
        rcases hz with rfl
        · exact Or.inr ⟨by decide, "java/lang/IndexOutOfBoundsException", hw _ ww_219, hC _ xp_1⟩) (by decide) (by decide) (hw _ ww_341) (va_Nw.use rfl (hX _ xm_8)) hce hcv hcl ?_
      refine lv_astore hx hb d_L_tweak_18 hl (by decide) (lv' := [(5, .ref q9), (0, .ref (A 0)), (1, .int a0), (2, .int a1), (3, .int a2), (4, .ref (A 10))]) rfl (fun ls hl => ?_)
      refine lv_iconst (v := 2) hx hb d_L_tweak_20 (by decide) ?_
      obtain rfl := Option.some.inj hF
      exact W.iret hx hb hr (fun t ht hW => ⟨⟨_, _, rfl, rfl, bw_end hP hK hD ht hW⟩, hS.F ht⟩) hS.2.2 d_L_tweak_21
    have hF := (if_neg h1).symm.trans hF
    by_cases h2 : E1 = "java/lang/IllegalArgumentException"
    · have hF := (if_pos h2).symm.trans hF
      subst h2
      refine vx_catch (name := "java/lang/IllegalArgumentException") hown [⟨0, 11, 14, 13⟩, ⟨0, 11, 18, 29⟩] ⟨0, 11, 22, 15⟩ [] htab (fun z hz => by
        simp only [List.mem_cons, List.not_mem_nil, or_false] at hz
        rcases hz with rfl | rfl
        · exact Or.inr ⟨by decide, "java/lang/IndexOutOfBoundsException", hw _ ww_219, hC _ xp_0⟩
        · exact Or.inr ⟨by decide, "java/util/NoSuchElementException", hw _ ww_341, hC _ xp_9⟩) (by decide) (by decide) (hw _ ww_220) (va_Nw.use rfl (hX _ xm_7)) hce hcv hcl ?_
      refine lv_astore hx hb d_L_tweak_22 hl (by decide) (lv' := [(5, .ref q9), (0, .ref (A 0)), (1, .int a0), (2, .int a1), (3, .int a2), (4, .ref (A 10))]) rfl (fun ls hl => ?_)
      refine lv_iconst (v := 3) hx hb d_L_tweak_24 (by decide) ?_
      obtain rfl := Option.some.inj hF
      exact W.iret hx hb hr (fun t ht hW => ⟨⟨_, _, rfl, rfl, bw_end hP hK hD ht hW⟩, hS.F ht⟩) hS.2.2 d_L_tweak_25
    have hF := (if_neg h2).symm.trans hF
    cases hF
  refine va_calll (va_runV (As := [.int a0, .int a1, .int a2]) (rest := [.int 0, .ref (A 10)]) ⟨hx, hb, hml, hown, hts⟩ (k_K_tweak_ok l D A cc g0.1 a0 a1 a2 _ (r1, g1) e1) (cwV 3 hts (ga_V ww_342 ww_343 ww_344 ww_1 ww_345) rfl rfl rfl (by decide +kernel) ⟨by decide, by decide⟩) (pw_pre (q0 := 0) (ci := 2) hPc hKc hDc hN rfl rfl) rfl rfl hl.1 rfl (lv_room (Nat.le_of_ble_eq_true rfl)) d_L_tweak_7 ⟨Nat.zero_le _, Nat.zero_le _⟩) hS (fun q _ h => hFc q h) hFc (fun r9 u9 t H1 locs ht hvm hp hB hz1 hk1 hS => ?_)
  obtain ⟨rfl, rfl⟩ := Prod.mk.inj hp.symm
  obtain ⟨hP1, hK1, hD1⟩ := hB
  rw [ht] at hP1
  obtain ⟨hP, hD⟩ := va_join (wr := [(A 10, .inl (cc 10, 1, .inr (.inl g0.2)))]) (w1 := wK A cc g1) hP hD [0, 1, 2, 3, 4, 5, 6, 7, 8, 9] [10] rfl rfl (by decide) (by decide) hk1 hFc hP1 hD1
  have hP := hP.sub (ws' := wX A cc (g1, g0.2)) [1, 2, 3, 4, 5, 6, 7, 8, 9, 10, 0] rfl
  have hD := hD.sub (ws' := wX A cc (g1, g0.2)) [1, 2, 3, 4, 5, 6, 7, 8, 9, 10, 0] (by decide) rfl
  refine va_last hx hb hK hP hD hS 10 7 rfl rfl (show vp_in 0 1 by unfold vp_in; decide) d_L_tweak_10 (fun H locs hP hD hS => ?_)
  have hP : va_P D vwC (wX A cc (g1, (vp_updL g0.2 (Int32.toNatClampNeg 0) r1))) H := hP
  have hD : va_D AA (wX A cc (g1, (vp_updL g0.2 (Int32.toNatClampNeg 0) r1))) := hD
  refine lv_goto hx hb d_L_tweak_11 (tgt := 26) (by decide) ?_
  refine lv_iconst (v := 0) hx hb d_L_tweak_26 (by decide) ?_
  obtain rfl := Option.some.inj hF
  refine W.widen (k := 1) (n := 6) (Nat.le_of_ble_eq_true rfl) (Nat.le_of_ble_eq_true rfl) ?_
  exact W.iret hx hb hr (fun t ht hW => ⟨⟨_, _, rfl, rfl, bw_end hP hK hD ht hW⟩, hS.F ht⟩) hS.2.2 d_L_tweak_27
def f_L_combine (g0 : sX) (a0 : Int32) (a1 : Int32) (a2 : Int32) : Option (Int32 × sX) := Option.bind (f_K_combine g0.1 a0 a1 a2) (fun x1 => match x1 with | .error (E1, gE) => (if E1 = "java/lang/IndexOutOfBoundsException" then some (1, (gE, g0.2)) else if E1 = "java/util/NoSuchElementException" then some (2, (gE, g0.2)) else if E1 = "java/lang/IllegalArgumentException" then some (3, (gE, g0.2)) else none) | .ok (r1, g1) => (some (0, (g1, (vp_updL g0.2 (Int32.toNatClampNeg 0) r1)))))
abbrev rm_L_combine : Room := { frames := 8, cells := 1, slots := 6, locals := 136 }
set_option maxHeartbeats 4000000 in
set_option maxRecDepth 100000 in
theorem k_L_combine (l : Launch) (hl0 : l.stackTraces = false) (D : va_G) (A : Nat → Nat) (cc : Nat → ClassId) (g0 : sX) (a0 : Int32) (a1 : Int32) (a2 : Int32) (sz : Nat) (res : Int32 × sX) (hF : f_L_combine g0 a0 a1 a2 = some res) : Met l y_L_combine (Cond.codeWith y_L_combine b_L_combine 6 (some .int) [(0, 11, 14, 13), (0, 11, 18, 29), (0, 11, 22, 15)] :: wa) rm_L_combine (pwl D (wX A cc g0) (kX cc) [.ref (A 0), .int a0, .int a1, .int a2, .ref (A 10)] sz) (va_Qi (fun r u => (r, u) = res) (bw D (wX A cc) (kX cc) (va_A (wX A cc g0) sz)) (va_A (wX A cc g0) sz)) 1 6 (va_A (wX A cc g0) sz) := by
  refine va_MetW (cc := b_L_combine) (maxL := 6) (ret := some .int) (hh := [(0, 11, 14, 13), (0, 11, 18, 29), (0, 11, 22, 15)]) (by decide) rfl ?_
  intro p e s m args below meth c s₁ B hml hv
  obtain ⟨⟨⟨rfl, hsz, hP, hK, hD0, hN⟩, hX, hZ⟩, hC⟩ := hv
  have hx := B.exec
  have hb := B.bytes
  have hr := B.returns
  have hts := atoms_spec (ws := Cond.codeWith y_L_combine b_L_combine 6 (some .int) [(0, 11, 14, 13), (0, 11, 18, 29), (0, 11, 22, 15)] :: wa) B.pre
  have hw : ∀ w ∈ wa, w.before _ s = true := fun w h => hts w (List.mem_cons_of_mem _ h)
  have hown : s.vm.findClass R_L = some m.cls := findClass_of_methodNamed B.named
  have hlocks := B.notSynchronized
  have htab : c.exceptionTable.toList = [⟨0, 11, 14, 13⟩, ⟨0, 11, 18, 29⟩, ⟨0, 11, 22, 15⟩] := vx_table (x := y_L_combine) B (hts _ List.mem_cons_self)
  subst hsz
  have hD := hD0.self (sz := s.heap.size)
  generalize hAe : va_A (wX A cc g0) s.heap.size = AA at hD hZ ⊢
  have hA : ∀ q : Nat, s.heap.size ≤ q → AA q := fun q h => by rw [← hAe]; exact Or.inr h
  have hS : va_S AA s.heap s.heap [] := va_S.rf
  have hl := lv_entry ([.ref (A 0), .int a0, .int a1, .int a2, .ref (A 10)]) (n := 6) (Nat.le_of_ble_eq_true rfl)
  rw [lg_entry_eq]
  generalize (lg_sl ([.ref (A 0), .int a0, .int a1, .int a2, .ref (A 10)]) ++ List.replicate (6 - (lg_sl ([.ref (A 0), .int a0, .int a1, .int a2, .ref (A 10)])).length) Slot.unset).toArray = ls at hl ⊢
  have hl : lv_has ls 6 [(0, .ref (A 0)), (1, .int a0), (2, .int a1), (3, .int a2), (4, .ref (A 10))] := hl
  unfold f_L_combine at hF
  obtain ⟨x1, e1, hF⟩ := Option.bind_eq_some_iff.mp hF
  refine lv_aload hx hb d_L_combine_0 (lv_at hl 4 rfl) ?_
  refine lv_iconst (v := 0) hx hb d_L_combine_2 (by decide) ?_
  refine lv_aload_n hx hb d_L_combine_3 rfl (lv_at hl 0 rfl) ?_
  refine lv_iload_n hx hb d_L_combine_4 rfl (lv_at hl 1 rfl) ?_
  refine lv_iload_n hx hb d_L_combine_5 rfl (lv_at hl 2 rfl) ?_
  refine lv_iload_n hx hb d_L_combine_6 rfl (lv_at hl 3 rfl) ?_
  have hPc := hP.sub (ws' := wK A cc g0.1) [0, 1, 2, 3, 4, 5, 6, 7, 8, 9] rfl
  have hDc := hD.sub (ws' := wK A cc g0.1) [0, 1, 2, 3, 4, 5, 6, 7, 8, 9] (by decide) rfl
  have hKc := hK.sub (tys' := kK cc) [0, 1, 2, 3, 4, 5, 6] rfl
  have hFc := va_free (wc := wK A cc g0.1) hD hS hA [0, 1, 2, 3, 4, 5, 6, 7, 8, 9] rfl
  rcases x1 with ⟨E1, gE⟩ | ⟨r1, g1⟩
  · refine vx_calll (vx_runV (As := [.int a0, .int a1, .int a2]) (rest := [.int 0, .ref (A 10)]) ⟨hx, hb, hml, hown, hts⟩ (k_K_combine_er l hl0 D A cc g0.1 a0 a1 a2 _ _ _ e1) (cwV 3 hts (ga_V ww_373 ww_374 ww_375 ww_1 ww_376) rfl rfl rfl (by decide +kernel) ⟨by decide, by decide⟩) (pwx_pre (q0 := 0) (ci := 2) hPc hKc hDc hN hX hZ hS hFc rfl rfl) rfl rfl hl.1 rfl (lv_room (Nat.le_of_ble_eq_true rfl)) d_L_combine_7 ⟨Nat.le_of_ble_eq_true rfl, Nat.le_of_ble_eq_true rfl⟩) hS (fun q _ h => hFc q h) hFc (fun q _ h => hFc q h) (fun E ce q9 u t H1 locs ht hvm hpx hBX hz hk hS hce hcv hcl => ?_) (fun r9 u t H1 locs _ _ hp _ _ _ _ => hp.elim)
    obtain rfl : gE = u := hpx.symm
    obtain ⟨hEE, hB⟩ := hBX
    have hcl : s.vm.findClass E1 = some ce.cls := hEE ▸ hcl
    obtain ⟨hP1, hK1, hD1⟩ := hB
    rw [ht] at hP1
    obtain ⟨hP, hD⟩ := va_join (wr := [(A 10, .inl (cc 10, 1, .inr (.inl g0.2)))]) (w1 := wK A cc gE) hP hD [0, 1, 2, 3, 4, 5, 6, 7, 8, 9] [10] rfl rfl (by decide) (by decide) hk hFc hP1 hD1
    have hP := hP.sub (ws' := wX A cc (gE, g0.2)) [1, 2, 3, 4, 5, 6, 7, 8, 9, 10, 0] rfl
    have hD := hD.sub (ws' := wX A cc (gE, g0.2)) [1, 2, 3, 4, 5, 6, 7, 8, 9, 10, 0] (by decide) rfl
    by_cases h0 : E1 = "java/lang/IndexOutOfBoundsException"
    · have hF := (if_pos h0).symm.trans hF
      subst h0
      refine vx_catch (name := "java/lang/IndexOutOfBoundsException") hown [] ⟨0, 11, 14, 13⟩ [⟨0, 11, 18, 29⟩, ⟨0, 11, 22, 15⟩] htab (fun z hz => nomatch hz) (by decide) (by decide) (hw _ ww_219) (va_Nw.use rfl (hX _ xm_0)) hce hcv hcl ?_
      refine lv_astore hx hb d_L_combine_14 hl (by decide) (lv' := [(5, .ref q9), (0, .ref (A 0)), (1, .int a0), (2, .int a1), (3, .int a2), (4, .ref (A 10))]) rfl (fun ls hl => ?_)
      refine lv_iconst (v := 1) hx hb d_L_combine_16 (by decide) ?_
      obtain rfl := Option.some.inj hF
      exact W.iret hx hb hr (fun t ht hW => ⟨⟨_, _, rfl, rfl, bw_end hP hK hD ht hW⟩, hS.F ht⟩) hS.2.2 d_L_combine_17
    have hF := (if_neg h0).symm.trans hF
    by_cases h1 : E1 = "java/util/NoSuchElementException"
    · have hF := (if_pos h1).symm.trans hF
      subst h1
      refine vx_catch (name := "java/util/NoSuchElementException") hown [⟨0, 11, 14, 13⟩] ⟨0, 11, 18, 29⟩ [⟨0, 11, 22, 15⟩] htab (fun z hz => by
        simp only [List.mem_cons, List.not_mem_nil, or_false] at hz
        rcases hz with rfl
        · exact Or.inr ⟨by decide, "java/lang/IndexOutOfBoundsException", hw _ ww_219, hC _ xp_1⟩) (by decide) (by decide) (hw _ ww_341) (va_Nw.use rfl (hX _ xm_8)) hce hcv hcl ?_
      refine lv_astore hx hb d_L_combine_18 hl (by decide) (lv' := [(5, .ref q9), (0, .ref (A 0)), (1, .int a0), (2, .int a1), (3, .int a2), (4, .ref (A 10))]) rfl (fun ls hl => ?_)
      refine lv_iconst (v := 2) hx hb d_L_combine_20 (by decide) ?_
      obtain rfl := Option.some.inj hF
      exact W.iret hx hb hr (fun t ht hW => ⟨⟨_, _, rfl, rfl, bw_end hP hK hD ht hW⟩, hS.F ht⟩) hS.2.2 d_L_combine_21
    have hF := (if_neg h1).symm.trans hF
    by_cases h2 : E1 = "java/lang/IllegalArgumentException"
    · have hF := (if_pos h2).symm.trans hF
      subst h2
      refine vx_catch (name := "java/lang/IllegalArgumentException") hown [⟨0, 11, 14, 13⟩, ⟨0, 11, 18, 29⟩] ⟨0, 11, 22, 15⟩ [] htab (fun z hz => by
        simp only [List.mem_cons, List.not_mem_nil, or_false] at hz
        rcases hz with rfl | rfl
        · exact Or.inr ⟨by decide, "java/lang/IndexOutOfBoundsException", hw _ ww_219, hC _ xp_0⟩
        · exact Or.inr ⟨by decide, "java/util/NoSuchElementException", hw _ ww_341, hC _ xp_9⟩) (by decide) (by decide) (hw _ ww_220) (va_Nw.use rfl (hX _ xm_7)) hce hcv hcl ?_
      refine lv_astore hx hb d_L_combine_22 hl (by decide) (lv' := [(5, .ref q9), (0, .ref (A 0)), (1, .int a0), (2, .int a1), (3, .int a2), (4, .ref (A 10))]) rfl (fun ls hl => ?_)
      refine lv_iconst (v := 3) hx hb d_L_combine_24 (by decide) ?_
      obtain rfl := Option.some.inj hF
      exact W.iret hx hb hr (fun t ht hW => ⟨⟨_, _, rfl, rfl, bw_end hP hK hD ht hW⟩, hS.F ht⟩) hS.2.2 d_L_combine_25
    have hF := (if_neg h2).symm.trans hF
    cases hF
  refine va_calll (va_runV (As := [.int a0, .int a1, .int a2]) (rest := [.int 0, .ref (A 10)]) ⟨hx, hb, hml, hown, hts⟩ (k_K_combine_ok l D A cc g0.1 a0 a1 a2 _ (r1, g1) e1) (cwV 3 hts (ga_V ww_373 ww_374 ww_375 ww_1 ww_376) rfl rfl rfl (by decide +kernel) ⟨by decide, by decide⟩) (pw_pre (q0 := 0) (ci := 2) hPc hKc hDc hN rfl rfl) rfl rfl hl.1 rfl (lv_room (Nat.le_of_ble_eq_true rfl)) d_L_combine_7 ⟨Nat.zero_le _, Nat.zero_le _⟩) hS (fun q _ h => hFc q h) hFc (fun r9 u9 t H1 locs ht hvm hp hB hz1 hk1 hS => ?_)
  obtain ⟨rfl, rfl⟩ := Prod.mk.inj hp.symm
  obtain ⟨hP1, hK1, hD1⟩ := hB
  rw [ht] at hP1
  obtain ⟨hP, hD⟩ := va_join (wr := [(A 10, .inl (cc 10, 1, .inr (.inl g0.2)))]) (w1 := wK A cc g1) hP hD [0, 1, 2, 3, 4, 5, 6, 7, 8, 9] [10] rfl rfl (by decide) (by decide) hk1 hFc hP1 hD1
  have hP := hP.sub (ws' := wX A cc (g1, g0.2)) [1, 2, 3, 4, 5, 6, 7, 8, 9, 10, 0] rfl
  have hD := hD.sub (ws' := wX A cc (g1, g0.2)) [1, 2, 3, 4, 5, 6, 7, 8, 9, 10, 0] (by decide) rfl
  refine va_last hx hb hK hP hD hS 10 7 rfl rfl (show vp_in 0 1 by unfold vp_in; decide) d_L_combine_10 (fun H locs hP hD hS => ?_)
  have hP : va_P D vwC (wX A cc (g1, (vp_updL g0.2 (Int32.toNatClampNeg 0) r1))) H := hP
  have hD : va_D AA (wX A cc (g1, (vp_updL g0.2 (Int32.toNatClampNeg 0) r1))) := hD
  refine lv_goto hx hb d_L_combine_11 (tgt := 26) (by decide) ?_
  refine lv_iconst (v := 0) hx hb d_L_combine_26 (by decide) ?_
  obtain rfl := Option.some.inj hF
  refine W.widen (k := 1) (n := 6) (Nat.le_of_ble_eq_true rfl) (Nat.le_of_ble_eq_true rfl) ?_
  exact W.iret hx hb hr (fun t ht hW => ⟨⟨_, _, rfl, rfl, bw_end hP hK hD ht hW⟩, hS.F ht⟩) hS.2.2 d_L_combine_27
def f_L_linear (g0 : sX) (a0 : Int32) (a1 : Int32) (a2 : Int32) : Option (Int32 × sX) := Option.bind (f_K_linear g0.1 a0 a1 a2) (fun x1 => match x1 with | .error (E1, gE) => (if E1 = "java/lang/IndexOutOfBoundsException" then some (1, (gE, g0.2)) else if E1 = "java/util/NoSuchElementException" then some (2, (gE, g0.2)) else if E1 = "java/lang/IllegalArgumentException" then some (3, (gE, g0.2)) else none) | .ok (r1, g1) => (some (0, (g1, (vp_updL g0.2 (Int32.toNatClampNeg 0) r1)))))
abbrev rm_L_linear : Room := { frames := 8, cells := 1, slots := 6, locals := 172 }
set_option maxHeartbeats 4000000 in
set_option maxRecDepth 100000 in
theorem k_L_linear (l : Launch) (hl0 : l.stackTraces = false) (D : va_G) (A : Nat → Nat) (cc : Nat → ClassId) (g0 : sX) (a0 : Int32) (a1 : Int32) (a2 : Int32) (sz : Nat) (res : Int32 × sX) (hF : f_L_linear g0 a0 a1 a2 = some res) : Met l y_L_linear (Cond.codeWith y_L_linear b_L_linear 6 (some .int) [(0, 11, 14, 13), (0, 11, 18, 29), (0, 11, 22, 15)] :: wa) rm_L_linear (pwl D (wX A cc g0) (kX cc) [.ref (A 0), .int a0, .int a1, .int a2, .ref (A 10)] sz) (va_Qi (fun r u => (r, u) = res) (bw D (wX A cc) (kX cc) (va_A (wX A cc g0) sz)) (va_A (wX A cc g0) sz)) 1 6 (va_A (wX A cc g0) sz) := by
  refine va_MetW (cc := b_L_linear) (maxL := 6) (ret := some .int) (hh := [(0, 11, 14, 13), (0, 11, 18, 29), (0, 11, 22, 15)]) (by decide) rfl ?_
  intro p e s m args below meth c s₁ B hml hv
  obtain ⟨⟨⟨rfl, hsz, hP, hK, hD0, hN⟩, hX, hZ⟩, hC⟩ := hv
  have hx := B.exec
  have hb := B.bytes
  have hr := B.returns
  have hts := atoms_spec (ws := Cond.codeWith y_L_linear b_L_linear 6 (some .int) [(0, 11, 14, 13), (0, 11, 18, 29), (0, 11, 22, 15)] :: wa) B.pre
  have hw : ∀ w ∈ wa, w.before _ s = true := fun w h => hts w (List.mem_cons_of_mem _ h)
  have hown : s.vm.findClass R_L = some m.cls := findClass_of_methodNamed B.named
  have hlocks := B.notSynchronized
  have htab : c.exceptionTable.toList = [⟨0, 11, 14, 13⟩, ⟨0, 11, 18, 29⟩, ⟨0, 11, 22, 15⟩] := vx_table (x := y_L_linear) B (hts _ List.mem_cons_self)
  subst hsz
  have hD := hD0.self (sz := s.heap.size)
  generalize hAe : va_A (wX A cc g0) s.heap.size = AA at hD hZ ⊢
  have hA : ∀ q : Nat, s.heap.size ≤ q → AA q := fun q h => by rw [← hAe]; exact Or.inr h
  have hS : va_S AA s.heap s.heap [] := va_S.rf
  have hl := lv_entry ([.ref (A 0), .int a0, .int a1, .int a2, .ref (A 10)]) (n := 6) (Nat.le_of_ble_eq_true rfl)
  rw [lg_entry_eq]
  generalize (lg_sl ([.ref (A 0), .int a0, .int a1, .int a2, .ref (A 10)]) ++ List.replicate (6 - (lg_sl ([.ref (A 0), .int a0, .int a1, .int a2, .ref (A 10)])).length) Slot.unset).toArray = ls at hl ⊢
  have hl : lv_has ls 6 [(0, .ref (A 0)), (1, .int a0), (2, .int a1), (3, .int a2), (4, .ref (A 10))] := hl
  unfold f_L_linear at hF
  obtain ⟨x1, e1, hF⟩ := Option.bind_eq_some_iff.mp hF
  refine lv_aload hx hb d_L_linear_0 (lv_at hl 4 rfl) ?_
  refine lv_iconst (v := 0) hx hb d_L_linear_2 (by decide) ?_
  refine lv_aload_n hx hb d_L_linear_3 rfl (lv_at hl 0 rfl) ?_
  refine lv_iload_n hx hb d_L_linear_4 rfl (lv_at hl 1 rfl) ?_
  refine lv_iload_n hx hb d_L_linear_5 rfl (lv_at hl 2 rfl) ?_
  refine lv_iload_n hx hb d_L_linear_6 rfl (lv_at hl 3 rfl) ?_
  have hPc := hP.sub (ws' := wK A cc g0.1) [0, 1, 2, 3, 4, 5, 6, 7, 8, 9] rfl
  have hDc := hD.sub (ws' := wK A cc g0.1) [0, 1, 2, 3, 4, 5, 6, 7, 8, 9] (by decide) rfl
  have hKc := hK.sub (tys' := kK cc) [0, 1, 2, 3, 4, 5, 6] rfl
  have hFc := va_free (wc := wK A cc g0.1) hD hS hA [0, 1, 2, 3, 4, 5, 6, 7, 8, 9] rfl
  rcases x1 with ⟨E1, gE⟩ | ⟨r1, g1⟩
  · refine vx_calll (vx_runV (As := [.int a0, .int a1, .int a2]) (rest := [.int 0, .ref (A 10)]) ⟨hx, hb, hml, hown, hts⟩ (k_K_linear_er l hl0 D A cc g0.1 a0 a1 a2 _ _ _ e1) (cwV 3 hts (ga_V ww_380 ww_381 ww_382 ww_1 ww_383) rfl rfl rfl (by decide +kernel) ⟨by decide, by decide⟩) (pwx_pre (q0 := 0) (ci := 2) hPc hKc hDc hN hX hZ hS hFc rfl rfl) rfl rfl hl.1 rfl (lv_room (Nat.le_of_ble_eq_true rfl)) d_L_linear_7 ⟨Nat.le_of_ble_eq_true rfl, Nat.le_of_ble_eq_true rfl⟩) hS (fun q _ h => hFc q h) hFc (fun q _ h => hFc q h) (fun E ce q9 u t H1 locs ht hvm hpx hBX hz hk hS hce hcv hcl => ?_) (fun r9 u t H1 locs _ _ hp _ _ _ _ => hp.elim)
    obtain rfl : gE = u := hpx.symm
    obtain ⟨hEE, hB⟩ := hBX
    have hcl : s.vm.findClass E1 = some ce.cls := hEE ▸ hcl
    obtain ⟨hP1, hK1, hD1⟩ := hB
    rw [ht] at hP1
    obtain ⟨hP, hD⟩ := va_join (wr := [(A 10, .inl (cc 10, 1, .inr (.inl g0.2)))]) (w1 := wK A cc gE) hP hD [0, 1, 2, 3, 4, 5, 6, 7, 8, 9] [10] rfl rfl (by decide) (by decide) hk hFc hP1 hD1
    have hP := hP.sub (ws' := wX A cc (gE, g0.2)) [1, 2, 3, 4, 5, 6, 7, 8, 9, 10, 0] rfl
    have hD := hD.sub (ws' := wX A cc (gE, g0.2)) [1, 2, 3, 4, 5, 6, 7, 8, 9, 10, 0] (by decide) rfl
    by_cases h0 : E1 = "java/lang/IndexOutOfBoundsException"
    · have hF := (if_pos h0).symm.trans hF
      subst h0
      refine vx_catch (name := "java/lang/IndexOutOfBoundsException") hown [] ⟨0, 11, 14, 13⟩ [⟨0, 11, 18, 29⟩, ⟨0, 11, 22, 15⟩] htab (fun z hz => nomatch hz) (by decide) (by decide) (hw _ ww_219) (va_Nw.use rfl (hX _ xm_0)) hce hcv hcl ?_
      refine lv_astore hx hb d_L_linear_14 hl (by decide) (lv' := [(5, .ref q9), (0, .ref (A 0)), (1, .int a0), (2, .int a1), (3, .int a2), (4, .ref (A 10))]) rfl (fun ls hl => ?_)
      refine lv_iconst (v := 1) hx hb d_L_linear_16 (by decide) ?_
      obtain rfl := Option.some.inj hF
      exact W.iret hx hb hr (fun t ht hW => ⟨⟨_, _, rfl, rfl, bw_end hP hK hD ht hW⟩, hS.F ht⟩) hS.2.2 d_L_linear_17
    have hF := (if_neg h0).symm.trans hF
    by_cases h1 : E1 = "java/util/NoSuchElementException"
    · have hF := (if_pos h1).symm.trans hF
      subst h1
      refine vx_catch (name := "java/util/NoSuchElementException") hown [⟨0, 11, 14, 13⟩] ⟨0, 11, 18, 29⟩ [⟨0, 11, 22, 15⟩] htab (fun z hz => by
        simp only [List.mem_cons, List.not_mem_nil, or_false] at hz
        rcases hz with rfl
        · exact Or.inr ⟨by decide, "java/lang/IndexOutOfBoundsException", hw _ ww_219, hC _ xp_1⟩) (by decide) (by decide) (hw _ ww_341) (va_Nw.use rfl (hX _ xm_8)) hce hcv hcl ?_
      refine lv_astore hx hb d_L_linear_18 hl (by decide) (lv' := [(5, .ref q9), (0, .ref (A 0)), (1, .int a0), (2, .int a1), (3, .int a2), (4, .ref (A 10))]) rfl (fun ls hl => ?_)
      refine lv_iconst (v := 2) hx hb d_L_linear_20 (by decide) ?_
      obtain rfl := Option.some.inj hF
      exact W.iret hx hb hr (fun t ht hW => ⟨⟨_, _, rfl, rfl, bw_end hP hK hD ht hW⟩, hS.F ht⟩) hS.2.2 d_L_linear_21
    have hF := (if_neg h1).symm.trans hF
    by_cases h2 : E1 = "java/lang/IllegalArgumentException"
    · have hF := (if_pos h2).symm.trans hF
      subst h2
      refine vx_catch (name := "java/lang/IllegalArgumentException") hown [⟨0, 11, 14, 13⟩, ⟨0, 11, 18, 29⟩] ⟨0, 11, 22, 15⟩ [] htab (fun z hz => by
        simp only [List.mem_cons, List.not_mem_nil, or_false] at hz
        rcases hz with rfl | rfl
        · exact Or.inr ⟨by decide, "java/lang/IndexOutOfBoundsException", hw _ ww_219, hC _ xp_0⟩
        · exact Or.inr ⟨by decide, "java/util/NoSuchElementException", hw _ ww_341, hC _ xp_9⟩) (by decide) (by decide) (hw _ ww_220) (va_Nw.use rfl (hX _ xm_7)) hce hcv hcl ?_
      refine lv_astore hx hb d_L_linear_22 hl (by decide) (lv' := [(5, .ref q9), (0, .ref (A 0)), (1, .int a0), (2, .int a1), (3, .int a2), (4, .ref (A 10))]) rfl (fun ls hl => ?_)
      refine lv_iconst (v := 3) hx hb d_L_linear_24 (by decide) ?_
      obtain rfl := Option.some.inj hF
      exact W.iret hx hb hr (fun t ht hW => ⟨⟨_, _, rfl, rfl, bw_end hP hK hD ht hW⟩, hS.F ht⟩) hS.2.2 d_L_linear_25
    have hF := (if_neg h2).symm.trans hF
    cases hF
  refine va_calll (va_runV (As := [.int a0, .int a1, .int a2]) (rest := [.int 0, .ref (A 10)]) ⟨hx, hb, hml, hown, hts⟩ (k_K_linear_ok l D A cc g0.1 a0 a1 a2 _ (r1, g1) e1) (cwV 3 hts (ga_V ww_380 ww_381 ww_382 ww_1 ww_383) rfl rfl rfl (by decide +kernel) ⟨by decide, by decide⟩) (pw_pre (q0 := 0) (ci := 2) hPc hKc hDc hN rfl rfl) rfl rfl hl.1 rfl (lv_room (Nat.le_of_ble_eq_true rfl)) d_L_linear_7 ⟨Nat.zero_le _, Nat.zero_le _⟩) hS (fun q _ h => hFc q h) hFc (fun r9 u9 t H1 locs ht hvm hp hB hz1 hk1 hS => ?_)
  obtain ⟨rfl, rfl⟩ := Prod.mk.inj hp.symm
  obtain ⟨hP1, hK1, hD1⟩ := hB
  rw [ht] at hP1
  obtain ⟨hP, hD⟩ := va_join (wr := [(A 10, .inl (cc 10, 1, .inr (.inl g0.2)))]) (w1 := wK A cc g1) hP hD [0, 1, 2, 3, 4, 5, 6, 7, 8, 9] [10] rfl rfl (by decide) (by decide) hk1 hFc hP1 hD1
  have hP := hP.sub (ws' := wX A cc (g1, g0.2)) [1, 2, 3, 4, 5, 6, 7, 8, 9, 10, 0] rfl
  have hD := hD.sub (ws' := wX A cc (g1, g0.2)) [1, 2, 3, 4, 5, 6, 7, 8, 9, 10, 0] (by decide) rfl
  refine va_last hx hb hK hP hD hS 10 7 rfl rfl (show vp_in 0 1 by unfold vp_in; decide) d_L_linear_10 (fun H locs hP hD hS => ?_)
  have hP : va_P D vwC (wX A cc (g1, (vp_updL g0.2 (Int32.toNatClampNeg 0) r1))) H := hP
  have hD : va_D AA (wX A cc (g1, (vp_updL g0.2 (Int32.toNatClampNeg 0) r1))) := hD
  refine lv_goto hx hb d_L_linear_11 (tgt := 26) (by decide) ?_
  refine lv_iconst (v := 0) hx hb d_L_linear_26 (by decide) ?_
  obtain rfl := Option.some.inj hF
  refine W.widen (k := 1) (n := 6) (Nat.le_of_ble_eq_true rfl) (Nat.le_of_ble_eq_true rfl) ?_
  exact W.iret hx hb hr (fun t ht hW => ⟨⟨_, _, rfl, rfl, bw_end hP hK hD ht hW⟩, hS.F ht⟩) hS.2.2 d_L_linear_27
def f_L_sign (g0 : sX) (a0 : Int32) (a1 : Int64) : Option (Int32 × sX) := Option.bind (f_K_sign g0.1 a0 a1) (fun x1 => match x1 with | .error (E1, gE) => (if E1 = "java/lang/IndexOutOfBoundsException" then some (1, (gE, g0.2)) else if E1 = "java/lang/IllegalStateException" then some (2, (gE, g0.2)) else if E1 = "java/lang/UnsupportedOperationException" then some (3, (gE, g0.2)) else none) | .ok (r1, g1) => (some (0, (g1, (vp_updL g0.2 (Int32.toNatClampNeg 0) r1)))))
abbrev rm_L_sign : Room := { frames := 8, cells := 1, slots := 6, locals := 158 }
set_option maxHeartbeats 4000000 in
set_option maxRecDepth 100000 in
theorem k_L_sign (l : Launch) (hl0 : l.stackTraces = false) (D : va_G) (A : Nat → Nat) (cc : Nat → ClassId) (g0 : sX) (a0 : Int32) (a1 : Int64) (sz : Nat) (res : Int32 × sX) (hF : f_L_sign g0 a0 a1 = some res) : Met l y_L_sign (Cond.codeWith y_L_sign b_L_sign 6 (some .int) [(0, 10, 13, 13), (0, 10, 17, 42), (0, 10, 21, 44)] :: wa) rm_L_sign (pwl D (wX A cc g0) (kX cc) [.ref (A 0), .int a0, .long a1, .ref (A 10)] sz) (va_Qi (fun r u => (r, u) = res) (bw D (wX A cc) (kX cc) (va_A (wX A cc g0) sz)) (va_A (wX A cc g0) sz)) 1 6 (va_A (wX A cc g0) sz) := by
  refine va_MetW (cc := b_L_sign) (maxL := 6) (ret := some .int) (hh := [(0, 10, 13, 13), (0, 10, 17, 42), (0, 10, 21, 44)]) (by decide) rfl ?_
  intro p e s m args below meth c s₁ B hml hv
  obtain ⟨⟨⟨rfl, hsz, hP, hK, hD0, hN⟩, hX, hZ⟩, hC⟩ := hv
  have hx := B.exec
  have hb := B.bytes
  have hr := B.returns
  have hts := atoms_spec (ws := Cond.codeWith y_L_sign b_L_sign 6 (some .int) [(0, 10, 13, 13), (0, 10, 17, 42), (0, 10, 21, 44)] :: wa) B.pre
  have hw : ∀ w ∈ wa, w.before _ s = true := fun w h => hts w (List.mem_cons_of_mem _ h)
  have hown : s.vm.findClass R_L = some m.cls := findClass_of_methodNamed B.named
  have hlocks := B.notSynchronized
  have htab : c.exceptionTable.toList = [⟨0, 10, 13, 13⟩, ⟨0, 10, 17, 42⟩, ⟨0, 10, 21, 44⟩] := vx_table (x := y_L_sign) B (hts _ List.mem_cons_self)
  subst hsz
  have hD := hD0.self (sz := s.heap.size)
  generalize hAe : va_A (wX A cc g0) s.heap.size = AA at hD hZ ⊢
  have hA : ∀ q : Nat, s.heap.size ≤ q → AA q := fun q h => by rw [← hAe]; exact Or.inr h
  have hS : va_S AA s.heap s.heap [] := va_S.rf
  have hl := lv_entry ([.ref (A 0), .int a0, .long a1, .ref (A 10)]) (n := 6) (Nat.le_of_ble_eq_true rfl)
  rw [lg_entry_eq]
  generalize (lg_sl ([.ref (A 0), .int a0, .long a1, .ref (A 10)]) ++ List.replicate (6 - (lg_sl ([.ref (A 0), .int a0, .long a1, .ref (A 10)])).length) Slot.unset).toArray = ls at hl ⊢
  have hl : lv_has ls 6 [(0, .ref (A 0)), (1, .int a0), (2, .long a1), (4, .ref (A 10))] := hl
  unfold f_L_sign at hF
  obtain ⟨x1, e1, hF⟩ := Option.bind_eq_some_iff.mp hF
  refine lv_aload hx hb d_L_sign_0 (lv_at hl 3 rfl) ?_
  refine lv_iconst (v := 0) hx hb d_L_sign_2 (by decide) ?_
  refine lv_aload_n hx hb d_L_sign_3 rfl (lv_at hl 0 rfl) ?_
  refine lv_iload_n hx hb d_L_sign_4 rfl (lv_at hl 1 rfl) ?_
  refine lv_lload_n hx hb d_L_sign_5 rfl (lv_at hl 2 rfl) ?_
  have hPc := hP.sub (ws' := wK A cc g0.1) [0, 1, 2, 3, 4, 5, 6, 7, 8, 9] rfl
  have hDc := hD.sub (ws' := wK A cc g0.1) [0, 1, 2, 3, 4, 5, 6, 7, 8, 9] (by decide) rfl
  have hKc := hK.sub (tys' := kK cc) [0, 1, 2, 3, 4, 5, 6] rfl
  have hFc := va_free (wc := wK A cc g0.1) hD hS hA [0, 1, 2, 3, 4, 5, 6, 7, 8, 9] rfl
  rcases x1 with ⟨E1, gE⟩ | ⟨r1, g1⟩
  · refine vx_calll (vx_runV (As := [.int a0, .long a1]) (rest := [.int 0, .ref (A 10)]) ⟨hx, hb, hml, hown, hts⟩ (k_K_sign_er l hl0 D A cc g0.1 a0 a1 _ _ _ e1) (cwV 2 hts (ga_V ww_390 ww_391 ww_392 ww_1 ww_393) rfl rfl rfl (by decide +kernel) ⟨by decide, by decide⟩) (pwx_pre (q0 := 0) (ci := 2) hPc hKc hDc hN hX hZ hS hFc rfl rfl) rfl rfl hl.1 rfl (lv_room (Nat.le_of_ble_eq_true rfl)) d_L_sign_6 ⟨Nat.le_of_ble_eq_true rfl, Nat.le_of_ble_eq_true rfl⟩) hS (fun q _ h => hFc q h) hFc (fun q _ h => hFc q h) (fun E ce q9 u t H1 locs ht hvm hpx hBX hz hk hS hce hcv hcl => ?_) (fun r9 u t H1 locs _ _ hp _ _ _ _ => hp.elim)
    obtain rfl : gE = u := hpx.symm
    obtain ⟨hEE, hB⟩ := hBX
    have hcl : s.vm.findClass E1 = some ce.cls := hEE ▸ hcl
    obtain ⟨hP1, hK1, hD1⟩ := hB
    rw [ht] at hP1
    obtain ⟨hP, hD⟩ := va_join (wr := [(A 10, .inl (cc 10, 1, .inr (.inl g0.2)))]) (w1 := wK A cc gE) hP hD [0, 1, 2, 3, 4, 5, 6, 7, 8, 9] [10] rfl rfl (by decide) (by decide) hk hFc hP1 hD1
    have hP := hP.sub (ws' := wX A cc (gE, g0.2)) [1, 2, 3, 4, 5, 6, 7, 8, 9, 10, 0] rfl
    have hD := hD.sub (ws' := wX A cc (gE, g0.2)) [1, 2, 3, 4, 5, 6, 7, 8, 9, 10, 0] (by decide) rfl
    by_cases h0 : E1 = "java/lang/IndexOutOfBoundsException"
    · have hF := (if_pos h0).symm.trans hF
      subst h0
      refine vx_catch (name := "java/lang/IndexOutOfBoundsException") hown [] ⟨0, 10, 13, 13⟩ [⟨0, 10, 17, 42⟩, ⟨0, 10, 21, 44⟩] htab (fun z hz => nomatch hz) (by decide) (by decide) (hw _ ww_219) (va_Nw.use rfl (hX _ xm_0)) hce hcv hcl ?_
      refine lv_astore hx hb d_L_sign_13 hl (by decide) (lv' := [(5, .ref q9), (0, .ref (A 0)), (1, .int a0), (2, .long a1), (4, .ref (A 10))]) rfl (fun ls hl => ?_)
      refine lv_iconst (v := 1) hx hb d_L_sign_15 (by decide) ?_
      obtain rfl := Option.some.inj hF
      exact W.iret hx hb hr (fun t ht hW => ⟨⟨_, _, rfl, rfl, bw_end hP hK hD ht hW⟩, hS.F ht⟩) hS.2.2 d_L_sign_16
    have hF := (if_neg h0).symm.trans hF
    by_cases h1 : E1 = "java/lang/IllegalStateException"
    · have hF := (if_pos h1).symm.trans hF
      subst h1
      refine vx_catch (name := "java/lang/IllegalStateException") hown [⟨0, 10, 13, 13⟩] ⟨0, 10, 17, 42⟩ [⟨0, 10, 21, 44⟩] htab (fun z hz => by
        simp only [List.mem_cons, List.not_mem_nil, or_false] at hz
        rcases hz with rfl
        · exact Or.inr ⟨by decide, "java/lang/IndexOutOfBoundsException", hw _ ww_219, hC _ xp_2⟩) (by decide) (by decide) (hw _ ww_388) (va_Nw.use rfl (hX _ xm_9)) hce hcv hcl ?_
      refine lv_astore hx hb d_L_sign_17 hl (by decide) (lv' := [(5, .ref q9), (0, .ref (A 0)), (1, .int a0), (2, .long a1), (4, .ref (A 10))]) rfl (fun ls hl => ?_)
      refine lv_iconst (v := 2) hx hb d_L_sign_19 (by decide) ?_
      obtain rfl := Option.some.inj hF
      exact W.iret hx hb hr (fun t ht hW => ⟨⟨_, _, rfl, rfl, bw_end hP hK hD ht hW⟩, hS.F ht⟩) hS.2.2 d_L_sign_20
    have hF := (if_neg h1).symm.trans hF
    by_cases h2 : E1 = "java/lang/UnsupportedOperationException"
    · have hF := (if_pos h2).symm.trans hF
      subst h2
      refine vx_catch (name := "java/lang/UnsupportedOperationException") hown [⟨0, 10, 13, 13⟩, ⟨0, 10, 17, 42⟩] ⟨0, 10, 21, 44⟩ [] htab (fun z hz => by
        simp only [List.mem_cons, List.not_mem_nil, or_false] at hz
        rcases hz with rfl | rfl
        · exact Or.inr ⟨by decide, "java/lang/IndexOutOfBoundsException", hw _ ww_219, hC _ xp_3⟩
        · exact Or.inr ⟨by decide, "java/lang/IllegalStateException", hw _ ww_388, hC _ xp_15⟩) (by decide) (by decide) (hw _ ww_389) (va_Nw.use rfl (hX _ xm_10)) hce hcv hcl ?_
      refine lv_astore hx hb d_L_sign_21 hl (by decide) (lv' := [(5, .ref q9), (0, .ref (A 0)), (1, .int a0), (2, .long a1), (4, .ref (A 10))]) rfl (fun ls hl => ?_)
      refine lv_iconst (v := 3) hx hb d_L_sign_23 (by decide) ?_
      obtain rfl := Option.some.inj hF
      exact W.iret hx hb hr (fun t ht hW => ⟨⟨_, _, rfl, rfl, bw_end hP hK hD ht hW⟩, hS.F ht⟩) hS.2.2 d_L_sign_24
    have hF := (if_neg h2).symm.trans hF
    cases hF
  refine va_calll (va_runV (As := [.int a0, .long a1]) (rest := [.int 0, .ref (A 10)]) ⟨hx, hb, hml, hown, hts⟩ (k_K_sign_ok l D A cc g0.1 a0 a1 _ (r1, g1) e1) (cwV 2 hts (ga_V ww_390 ww_391 ww_392 ww_1 ww_393) rfl rfl rfl (by decide +kernel) ⟨by decide, by decide⟩) (pw_pre (q0 := 0) (ci := 2) hPc hKc hDc hN rfl rfl) rfl rfl hl.1 rfl (lv_room (Nat.le_of_ble_eq_true rfl)) d_L_sign_6 ⟨Nat.zero_le _, Nat.zero_le _⟩) hS (fun q _ h => hFc q h) hFc (fun r9 u9 t H1 locs ht hvm hp hB hz1 hk1 hS => ?_)
  obtain ⟨rfl, rfl⟩ := Prod.mk.inj hp.symm
  obtain ⟨hP1, hK1, hD1⟩ := hB
  rw [ht] at hP1
  obtain ⟨hP, hD⟩ := va_join (wr := [(A 10, .inl (cc 10, 1, .inr (.inl g0.2)))]) (w1 := wK A cc g1) hP hD [0, 1, 2, 3, 4, 5, 6, 7, 8, 9] [10] rfl rfl (by decide) (by decide) hk1 hFc hP1 hD1
  have hP := hP.sub (ws' := wX A cc (g1, g0.2)) [1, 2, 3, 4, 5, 6, 7, 8, 9, 10, 0] rfl
  have hD := hD.sub (ws' := wX A cc (g1, g0.2)) [1, 2, 3, 4, 5, 6, 7, 8, 9, 10, 0] (by decide) rfl
  refine va_last hx hb hK hP hD hS 10 7 rfl rfl (show vp_in 0 1 by unfold vp_in; decide) d_L_sign_9 (fun H locs hP hD hS => ?_)
  have hP : va_P D vwC (wX A cc (g1, (vp_updL g0.2 (Int32.toNatClampNeg 0) r1))) H := hP
  have hD : va_D AA (wX A cc (g1, (vp_updL g0.2 (Int32.toNatClampNeg 0) r1))) := hD
  refine lv_goto hx hb d_L_sign_10 (tgt := 25) (by decide) ?_
  refine lv_iconst (v := 0) hx hb d_L_sign_25 (by decide) ?_
  obtain rfl := Option.some.inj hF
  refine W.widen (k := 1) (n := 6) (Nat.le_of_ble_eq_true rfl) (Nat.le_of_ble_eq_true rfl) ?_
  exact W.iret hx hb hr (fun t ht hW => ⟨⟨_, _, rfl, rfl, bw_end hP hK hD ht hW⟩, hS.F ht⟩) hS.2.2 d_L_sign_26
def f_L_good (g0 : sX) (a0 : Int32) (a1 : Int64) (a2 : Int32) (a3 : Int32) : Option (Int32 × sX) := Option.bind (f_K_good g0.1 a0 a1 a2 a3) (fun x1 => match x1 with | .error (E1, gE) => (if E1 = "java/lang/IndexOutOfBoundsException" then some (1, (gE, g0.2)) else if E1 = "java/util/NoSuchElementException" then some (2, (gE, g0.2)) else none) | .ok (r1, g1) => (if r1 = 0 then some (0, (g1, (vp_updL g0.2 (Int32.toNatClampNeg 0) 0))) else some (0, (g1, (vp_updL g0.2 (Int32.toNatClampNeg 0) 1)))))
abbrev rm_L_good : Room := { frames := 8, cells := 1, slots := 6, locals := 180 }
set_option maxHeartbeats 4000000 in
set_option maxRecDepth 100000 in
theorem k_L_good (l : Launch) (hl0 : l.stackTraces = false) (D : va_G) (A : Nat → Nat) (cc : Nat → ClassId) (g0 : sX) (a0 : Int32) (a1 : Int64) (a2 : Int32) (a3 : Int32) (sz : Nat) (res : Int32 × sX) (hF : f_L_good g0 a0 a1 a2 a3 = some res) : Met l y_L_good (Cond.codeWith y_L_good b_L_good 8 (some .int) [(0, 22, 25, 13), (0, 22, 29, 29)] :: wa) rm_L_good (pwl D (wX A cc g0) (kX cc) [.ref (A 0), .int a0, .long a1, .int a2, .int a3, .ref (A 10)] sz) (va_Qi (fun r u => (r, u) = res) (bw D (wX A cc) (kX cc) (va_A (wX A cc g0) sz)) (va_A (wX A cc g0) sz)) 1 6 (va_A (wX A cc g0) sz) := by
  refine va_MetW (cc := b_L_good) (maxL := 8) (ret := some .int) (hh := [(0, 22, 25, 13), (0, 22, 29, 29)]) (by decide) rfl ?_
  intro p e s m args below meth c s₁ B hml hv
  obtain ⟨⟨⟨rfl, hsz, hP, hK, hD0, hN⟩, hX, hZ⟩, hC⟩ := hv
  have hx := B.exec
  have hb := B.bytes
  have hr := B.returns
  have hts := atoms_spec (ws := Cond.codeWith y_L_good b_L_good 8 (some .int) [(0, 22, 25, 13), (0, 22, 29, 29)] :: wa) B.pre
  have hw : ∀ w ∈ wa, w.before _ s = true := fun w h => hts w (List.mem_cons_of_mem _ h)
  have hown : s.vm.findClass R_L = some m.cls := findClass_of_methodNamed B.named
  have hlocks := B.notSynchronized
  have htab : c.exceptionTable.toList = [⟨0, 22, 25, 13⟩, ⟨0, 22, 29, 29⟩] := vx_table (x := y_L_good) B (hts _ List.mem_cons_self)
  subst hsz
  have hD := hD0.self (sz := s.heap.size)
  generalize hAe : va_A (wX A cc g0) s.heap.size = AA at hD hZ ⊢
  have hA : ∀ q : Nat, s.heap.size ≤ q → AA q := fun q h => by rw [← hAe]; exact Or.inr h
  have hS : va_S AA s.heap s.heap [] := va_S.rf
  have hl := lv_entry ([.ref (A 0), .int a0, .long a1, .int a2, .int a3, .ref (A 10)]) (n := 8) (Nat.le_of_ble_eq_true rfl)
  rw [lg_entry_eq]
  generalize (lg_sl ([.ref (A 0), .int a0, .long a1, .int a2, .int a3, .ref (A 10)]) ++ List.replicate (8 - (lg_sl ([.ref (A 0), .int a0, .long a1, .int a2, .int a3, .ref (A 10)])).length) Slot.unset).toArray = ls at hl ⊢
  have hl : lv_has ls 8 [(0, .ref (A 0)), (1, .int a0), (2, .long a1), (4, .int a2), (5, .int a3), (6, .ref (A 10))] := hl
  unfold f_L_good at hF
  obtain ⟨x1, e1, hF⟩ := Option.bind_eq_some_iff.mp hF
  refine lv_aload hx hb d_L_good_0 (lv_at hl 5 rfl) ?_
  refine lv_iconst (v := 0) hx hb d_L_good_2 (by decide) ?_
  refine lv_aload_n hx hb d_L_good_3 rfl (lv_at hl 0 rfl) ?_
  refine lv_iload_n hx hb d_L_good_4 rfl (lv_at hl 1 rfl) ?_
  refine lv_lload_n hx hb d_L_good_5 rfl (lv_at hl 2 rfl) ?_
  refine lv_iload hx hb d_L_good_6 (lv_at hl 3 rfl) ?_
  refine lv_iload hx hb d_L_good_8 (lv_at hl 4 rfl) ?_
  have hPc := hP.sub (ws' := wK A cc g0.1) [0, 1, 2, 3, 4, 5, 6, 7, 8, 9] rfl
  have hDc := hD.sub (ws' := wK A cc g0.1) [0, 1, 2, 3, 4, 5, 6, 7, 8, 9] (by decide) rfl
  have hKc := hK.sub (tys' := kK cc) [0, 1, 2, 3, 4, 5, 6] rfl
  have hFc := va_free (wc := wK A cc g0.1) hD hS hA [0, 1, 2, 3, 4, 5, 6, 7, 8, 9] rfl
  rcases x1 with ⟨E1, gE⟩ | ⟨r1, g1⟩
  · refine vx_calli (vx_runV (As := [.int a0, .long a1, .int a2, .int a3]) (rest := [.int 0, .ref (A 10)]) ⟨hx, hb, hml, hown, hts⟩ (k_K_good_er l hl0 D A cc g0.1 a0 a1 a2 a3 _ _ _ e1) (cwV 4 hts (ga_V ww_445 ww_446 ww_447 ww_1 ww_448) rfl rfl rfl (by decide +kernel) ⟨by decide, by decide⟩) (pwx_pre (q0 := 0) (ci := 2) hPc hKc hDc hN hX hZ hS hFc rfl rfl) rfl rfl hl.1 rfl (lv_room (Nat.le_of_ble_eq_true rfl)) d_L_good_10 ⟨Nat.le_of_ble_eq_true rfl, Nat.le_of_ble_eq_true rfl⟩) hS (fun q _ h => hFc q h) hFc (fun q _ h => hFc q h) (fun E ce q9 u t H1 locs ht hvm hpx hBX hz hk hS hce hcv hcl => ?_) (fun r9 u t H1 locs _ _ hp _ _ _ _ => hp.elim)
    obtain rfl : gE = u := hpx.symm
    obtain ⟨hEE, hB⟩ := hBX
    have hcl : s.vm.findClass E1 = some ce.cls := hEE ▸ hcl
    obtain ⟨hP1, hK1, hD1⟩ := hB
    rw [ht] at hP1
    obtain ⟨hP, hD⟩ := va_join (wr := [(A 10, .inl (cc 10, 1, .inr (.inl g0.2)))]) (w1 := wK A cc gE) hP hD [0, 1, 2, 3, 4, 5, 6, 7, 8, 9] [10] rfl rfl (by decide) (by decide) hk hFc hP1 hD1
    have hP := hP.sub (ws' := wX A cc (gE, g0.2)) [1, 2, 3, 4, 5, 6, 7, 8, 9, 10, 0] rfl
    have hD := hD.sub (ws' := wX A cc (gE, g0.2)) [1, 2, 3, 4, 5, 6, 7, 8, 9, 10, 0] (by decide) rfl
    by_cases h0 : E1 = "java/lang/IndexOutOfBoundsException"
    · have hF := (if_pos h0).symm.trans hF
      subst h0
      refine vx_catch (name := "java/lang/IndexOutOfBoundsException") hown [] ⟨0, 22, 25, 13⟩ [⟨0, 22, 29, 29⟩] htab (fun z hz => nomatch hz) (by decide) (by decide) (hw _ ww_219) (va_Nw.use rfl (hX _ xm_0)) hce hcv hcl ?_
      refine lv_astore hx hb d_L_good_25 hl (by decide) (lv' := [(7, .ref q9), (0, .ref (A 0)), (1, .int a0), (2, .long a1), (4, .int a2), (5, .int a3), (6, .ref (A 10))]) rfl (fun ls hl => ?_)
      refine lv_iconst (v := 1) hx hb d_L_good_27 (by decide) ?_
      obtain rfl := Option.some.inj hF
      exact W.iret hx hb hr (fun t ht hW => ⟨⟨_, _, rfl, rfl, bw_end hP hK hD ht hW⟩, hS.F ht⟩) hS.2.2 d_L_good_28
    have hF := (if_neg h0).symm.trans hF
    by_cases h1 : E1 = "java/util/NoSuchElementException"
    · have hF := (if_pos h1).symm.trans hF
      subst h1
      refine vx_catch (name := "java/util/NoSuchElementException") hown [⟨0, 22, 25, 13⟩] ⟨0, 22, 29, 29⟩ [] htab (fun z hz => by
        simp only [List.mem_cons, List.not_mem_nil, or_false] at hz
        rcases hz with rfl
        · exact Or.inr ⟨by decide, "java/lang/IndexOutOfBoundsException", hw _ ww_219, hC _ xp_1⟩) (by decide) (by decide) (hw _ ww_341) (va_Nw.use rfl (hX _ xm_8)) hce hcv hcl ?_
      refine lv_astore hx hb d_L_good_29 hl (by decide) (lv' := [(7, .ref q9), (0, .ref (A 0)), (1, .int a0), (2, .long a1), (4, .int a2), (5, .int a3), (6, .ref (A 10))]) rfl (fun ls hl => ?_)
      refine lv_iconst (v := 2) hx hb d_L_good_31 (by decide) ?_
      obtain rfl := Option.some.inj hF
      exact W.iret hx hb hr (fun t ht hW => ⟨⟨_, _, rfl, rfl, bw_end hP hK hD ht hW⟩, hS.F ht⟩) hS.2.2 d_L_good_32
    have hF := (if_neg h1).symm.trans hF
    cases hF
  refine va_calli (va_runV (As := [.int a0, .long a1, .int a2, .int a3]) (rest := [.int 0, .ref (A 10)]) ⟨hx, hb, hml, hown, hts⟩ (k_K_good_ok l D A cc g0.1 a0 a1 a2 a3 _ (r1, g1) e1) (cwV 4 hts (ga_V ww_445 ww_446 ww_447 ww_1 ww_448) rfl rfl rfl (by decide +kernel) ⟨by decide, by decide⟩) (pw_pre (q0 := 0) (ci := 2) hPc hKc hDc hN rfl rfl) rfl rfl hl.1 rfl (lv_room (Nat.le_of_ble_eq_true rfl)) d_L_good_10 ⟨Nat.zero_le _, Nat.zero_le _⟩) hS (fun q _ h => hFc q h) hFc (fun r9 u9 t H1 locs ht hvm hp hB hz1 hk1 hS => ?_)
  obtain ⟨rfl, rfl⟩ := Prod.mk.inj hp.symm
  obtain ⟨hP1, hK1, hD1⟩ := hB
  rw [ht] at hP1
  obtain ⟨hP, hD⟩ := va_join (wr := [(A 10, .inl (cc 10, 1, .inr (.inl g0.2)))]) (w1 := wK A cc g1) hP hD [0, 1, 2, 3, 4, 5, 6, 7, 8, 9] [10] rfl rfl (by decide) (by decide) hk1 hFc hP1 hD1
  have hP := hP.sub (ws' := wX A cc (g1, g0.2)) [1, 2, 3, 4, 5, 6, 7, 8, 9, 10, 0] rfl
  have hD := hD.sub (ws' := wX A cc (g1, g0.2)) [1, 2, 3, 4, 5, 6, 7, 8, 9, 10, 0] (by decide) rfl
  refine lv_if_eq hx hb d_L_good_13 (tgt := 20) (by decide) (fun h9 => ?_) (fun h9 => ?_)
  · have hF := (if_pos h9).symm.trans hF
    refine lv_lconst (v := 0) hx hb d_L_good_20 (by decide) ?_
    refine va_last hx hb hK hP hD hS 10 7 rfl rfl (show vp_in 0 1 by unfold vp_in; decide) d_L_good_21 (fun H locs hP hD hS => ?_)
    have hP : va_P D vwC (wX A cc (g1, (vp_updL g0.2 (Int32.toNatClampNeg 0) 0))) H := hP
    have hD : va_D AA (wX A cc (g1, (vp_updL g0.2 (Int32.toNatClampNeg 0) 0))) := hD
    refine lv_goto hx hb d_L_good_22 (tgt := 33) (by decide) ?_
    refine lv_iconst (v := 0) hx hb d_L_good_33 (by decide) ?_
    obtain rfl := Option.some.inj hF
    refine W.widen (k := 1) (n := 6) (Nat.le_of_ble_eq_true rfl) (Nat.le_of_ble_eq_true rfl) ?_
    exact W.iret hx hb hr (fun t ht hW => ⟨⟨_, _, rfl, rfl, bw_end hP hK hD ht hW⟩, hS.F ht⟩) hS.2.2 d_L_good_34
  · have hF := (if_neg h9).symm.trans hF
    refine lv_lconst (v := 1) hx hb d_L_good_16 (by decide) ?_
    refine lv_goto hx hb d_L_good_17 (tgt := 21) (by decide) ?_
    refine va_last hx hb hK hP hD hS 10 7 rfl rfl (show vp_in 0 1 by unfold vp_in; decide) d_L_good_21 (fun H locs hP hD hS => ?_)
    have hP : va_P D vwC (wX A cc (g1, (vp_updL g0.2 (Int32.toNatClampNeg 0) 1))) H := hP
    have hD : va_D AA (wX A cc (g1, (vp_updL g0.2 (Int32.toNatClampNeg 0) 1))) := hD
    refine lv_goto hx hb d_L_good_22 (tgt := 33) (by decide) ?_
    refine lv_iconst (v := 0) hx hb d_L_good_33 (by decide) ?_
    obtain rfl := Option.some.inj hF
    refine W.widen (k := 1) (n := 6) (Nat.le_of_ble_eq_true rfl) (Nat.le_of_ble_eq_true rfl) ?_
    exact W.iret hx hb hr (fun t ht hW => ⟨⟨_, _, rfl, rfl, bw_end hP hK hD ht hW⟩, hS.F ht⟩) hS.2.2 d_L_good_34
def f_L_recover (g0 : sX) (a0 : Int32) (a1 : Int64) (a2 : Int32) (a3 : Int32) (a4 : Int32) : Option (Int32 × sX) := Option.bind (f_K_recover g0.1 a0 a1 a2 a3 a4) (fun x1 => match x1 with | .error (E1, gE) => (if E1 = "java/lang/IndexOutOfBoundsException" then some (1, (gE, g0.2)) else if E1 = "java/lang/IllegalArgumentException" then some (2, (gE, g0.2)) else none) | .ok (r1, g1) => (some (0, (g1, (vp_updL g0.2 (Int32.toNatClampNeg 0) r1)))))
abbrev rm_L_recover : Room := { frames := 8, cells := 1, slots := 6, locals := 183 }
set_option maxHeartbeats 4000000 in
set_option maxRecDepth 100000 in
theorem k_L_recover (l : Launch) (hl0 : l.stackTraces = false) (D : va_G) (A : Nat → Nat) (cc : Nat → ClassId) (g0 : sX) (a0 : Int32) (a1 : Int64) (a2 : Int32) (a3 : Int32) (a4 : Int32) (sz : Nat) (res : Int32 × sX) (hF : f_L_recover g0 a0 a1 a2 a3 a4 = some res) : Met l y_L_recover (Cond.codeWith y_L_recover b_L_recover 9 (some .int) [(0, 16, 19, 13), (0, 16, 23, 15)] :: wa) rm_L_recover (pwl D (wX A cc g0) (kX cc) [.ref (A 0), .int a0, .long a1, .int a2, .int a3, .int a4, .ref (A 10)] sz) (va_Qi (fun r u => (r, u) = res) (bw D (wX A cc) (kX cc) (va_A (wX A cc g0) sz)) (va_A (wX A cc g0) sz)) 1 6 (va_A (wX A cc g0) sz) := by
  refine va_MetW (cc := b_L_recover) (maxL := 9) (ret := some .int) (hh := [(0, 16, 19, 13), (0, 16, 23, 15)]) (by decide) rfl ?_
  intro p e s m args below meth c s₁ B hml hv
  obtain ⟨⟨⟨rfl, hsz, hP, hK, hD0, hN⟩, hX, hZ⟩, hC⟩ := hv
  have hx := B.exec
  have hb := B.bytes
  have hr := B.returns
  have hts := atoms_spec (ws := Cond.codeWith y_L_recover b_L_recover 9 (some .int) [(0, 16, 19, 13), (0, 16, 23, 15)] :: wa) B.pre
  have hw : ∀ w ∈ wa, w.before _ s = true := fun w h => hts w (List.mem_cons_of_mem _ h)
  have hown : s.vm.findClass R_L = some m.cls := findClass_of_methodNamed B.named
  have hlocks := B.notSynchronized
  have htab : c.exceptionTable.toList = [⟨0, 16, 19, 13⟩, ⟨0, 16, 23, 15⟩] := vx_table (x := y_L_recover) B (hts _ List.mem_cons_self)
  subst hsz
  have hD := hD0.self (sz := s.heap.size)
  generalize hAe : va_A (wX A cc g0) s.heap.size = AA at hD hZ ⊢
  have hA : ∀ q : Nat, s.heap.size ≤ q → AA q := fun q h => by rw [← hAe]; exact Or.inr h
  have hS : va_S AA s.heap s.heap [] := va_S.rf
  have hl := lv_entry ([.ref (A 0), .int a0, .long a1, .int a2, .int a3, .int a4, .ref (A 10)]) (n := 9) (Nat.le_of_ble_eq_true rfl)
  rw [lg_entry_eq]
  generalize (lg_sl ([.ref (A 0), .int a0, .long a1, .int a2, .int a3, .int a4, .ref (A 10)]) ++ List.replicate (9 - (lg_sl ([.ref (A 0), .int a0, .long a1, .int a2, .int a3, .int a4, .ref (A 10)])).length) Slot.unset).toArray = ls at hl ⊢
  have hl : lv_has ls 9 [(0, .ref (A 0)), (1, .int a0), (2, .long a1), (4, .int a2), (5, .int a3), (6, .int a4), (7, .ref (A 10))] := hl
  unfold f_L_recover at hF
  obtain ⟨x1, e1, hF⟩ := Option.bind_eq_some_iff.mp hF
  refine lv_aload hx hb d_L_recover_0 (lv_at hl 6 rfl) ?_
  refine lv_iconst (v := 0) hx hb d_L_recover_2 (by decide) ?_
  refine lv_aload_n hx hb d_L_recover_3 rfl (lv_at hl 0 rfl) ?_
  refine lv_iload_n hx hb d_L_recover_4 rfl (lv_at hl 1 rfl) ?_
  refine lv_lload_n hx hb d_L_recover_5 rfl (lv_at hl 2 rfl) ?_
  refine lv_iload hx hb d_L_recover_6 (lv_at hl 3 rfl) ?_
  refine lv_iload hx hb d_L_recover_8 (lv_at hl 4 rfl) ?_
  refine lv_iload hx hb d_L_recover_10 (lv_at hl 5 rfl) ?_
  have hPc := hP.sub (ws' := wK A cc g0.1) [0, 1, 2, 3, 4, 5, 6, 7, 8, 9] rfl
  have hDc := hD.sub (ws' := wK A cc g0.1) [0, 1, 2, 3, 4, 5, 6, 7, 8, 9] (by decide) rfl
  have hKc := hK.sub (tys' := kK cc) [0, 1, 2, 3, 4, 5, 6] rfl
  have hFc := va_free (wc := wK A cc g0.1) hD hS hA [0, 1, 2, 3, 4, 5, 6, 7, 8, 9] rfl
  rcases x1 with ⟨E1, gE⟩ | ⟨r1, g1⟩
  · refine vx_calll (vx_runV (As := [.int a0, .long a1, .int a2, .int a3, .int a4]) (rest := [.int 0, .ref (A 10)]) ⟨hx, hb, hml, hown, hts⟩ (k_K_recover_er l hl0 D A cc g0.1 a0 a1 a2 a3 a4 _ _ _ e1) (cwV 5 hts (ga_V ww_452 ww_453 ww_454 ww_1 ww_455) rfl rfl rfl (by decide +kernel) ⟨by decide, by decide⟩) (pwx_pre (q0 := 0) (ci := 2) hPc hKc hDc hN hX hZ hS hFc rfl rfl) rfl rfl hl.1 rfl (lv_room (Nat.le_of_ble_eq_true rfl)) d_L_recover_12 ⟨Nat.le_of_ble_eq_true rfl, Nat.le_of_ble_eq_true rfl⟩) hS (fun q _ h => hFc q h) hFc (fun q _ h => hFc q h) (fun E ce q9 u t H1 locs ht hvm hpx hBX hz hk hS hce hcv hcl => ?_) (fun r9 u t H1 locs _ _ hp _ _ _ _ => hp.elim)
    obtain rfl : gE = u := hpx.symm
    obtain ⟨hEE, hB⟩ := hBX
    have hcl : s.vm.findClass E1 = some ce.cls := hEE ▸ hcl
    obtain ⟨hP1, hK1, hD1⟩ := hB
    rw [ht] at hP1
    obtain ⟨hP, hD⟩ := va_join (wr := [(A 10, .inl (cc 10, 1, .inr (.inl g0.2)))]) (w1 := wK A cc gE) hP hD [0, 1, 2, 3, 4, 5, 6, 7, 8, 9] [10] rfl rfl (by decide) (by decide) hk hFc hP1 hD1
    have hP := hP.sub (ws' := wX A cc (gE, g0.2)) [1, 2, 3, 4, 5, 6, 7, 8, 9, 10, 0] rfl
    have hD := hD.sub (ws' := wX A cc (gE, g0.2)) [1, 2, 3, 4, 5, 6, 7, 8, 9, 10, 0] (by decide) rfl
    by_cases h0 : E1 = "java/lang/IndexOutOfBoundsException"
    · have hF := (if_pos h0).symm.trans hF
      subst h0
      refine vx_catch (name := "java/lang/IndexOutOfBoundsException") hown [] ⟨0, 16, 19, 13⟩ [⟨0, 16, 23, 15⟩] htab (fun z hz => nomatch hz) (by decide) (by decide) (hw _ ww_219) (va_Nw.use rfl (hX _ xm_0)) hce hcv hcl ?_
      refine lv_astore hx hb d_L_recover_19 hl (by decide) (lv' := [(8, .ref q9), (0, .ref (A 0)), (1, .int a0), (2, .long a1), (4, .int a2), (5, .int a3), (6, .int a4), (7, .ref (A 10))]) rfl (fun ls hl => ?_)
      refine lv_iconst (v := 1) hx hb d_L_recover_21 (by decide) ?_
      obtain rfl := Option.some.inj hF
      exact W.iret hx hb hr (fun t ht hW => ⟨⟨_, _, rfl, rfl, bw_end hP hK hD ht hW⟩, hS.F ht⟩) hS.2.2 d_L_recover_22
    have hF := (if_neg h0).symm.trans hF
    by_cases h1 : E1 = "java/lang/IllegalArgumentException"
    · have hF := (if_pos h1).symm.trans hF
      subst h1
      refine vx_catch (name := "java/lang/IllegalArgumentException") hown [⟨0, 16, 19, 13⟩] ⟨0, 16, 23, 15⟩ [] htab (fun z hz => by
        simp only [List.mem_cons, List.not_mem_nil, or_false] at hz
        rcases hz with rfl
        · exact Or.inr ⟨by decide, "java/lang/IndexOutOfBoundsException", hw _ ww_219, hC _ xp_0⟩) (by decide) (by decide) (hw _ ww_220) (va_Nw.use rfl (hX _ xm_7)) hce hcv hcl ?_
      refine lv_astore hx hb d_L_recover_23 hl (by decide) (lv' := [(8, .ref q9), (0, .ref (A 0)), (1, .int a0), (2, .long a1), (4, .int a2), (5, .int a3), (6, .int a4), (7, .ref (A 10))]) rfl (fun ls hl => ?_)
      refine lv_iconst (v := 2) hx hb d_L_recover_25 (by decide) ?_
      obtain rfl := Option.some.inj hF
      exact W.iret hx hb hr (fun t ht hW => ⟨⟨_, _, rfl, rfl, bw_end hP hK hD ht hW⟩, hS.F ht⟩) hS.2.2 d_L_recover_26
    have hF := (if_neg h1).symm.trans hF
    cases hF
  refine va_calll (va_runV (As := [.int a0, .long a1, .int a2, .int a3, .int a4]) (rest := [.int 0, .ref (A 10)]) ⟨hx, hb, hml, hown, hts⟩ (k_K_recover_ok l D A cc g0.1 a0 a1 a2 a3 a4 _ (r1, g1) e1) (cwV 5 hts (ga_V ww_452 ww_453 ww_454 ww_1 ww_455) rfl rfl rfl (by decide +kernel) ⟨by decide, by decide⟩) (pw_pre (q0 := 0) (ci := 2) hPc hKc hDc hN rfl rfl) rfl rfl hl.1 rfl (lv_room (Nat.le_of_ble_eq_true rfl)) d_L_recover_12 ⟨Nat.zero_le _, Nat.zero_le _⟩) hS (fun q _ h => hFc q h) hFc (fun r9 u9 t H1 locs ht hvm hp hB hz1 hk1 hS => ?_)
  obtain ⟨rfl, rfl⟩ := Prod.mk.inj hp.symm
  obtain ⟨hP1, hK1, hD1⟩ := hB
  rw [ht] at hP1
  obtain ⟨hP, hD⟩ := va_join (wr := [(A 10, .inl (cc 10, 1, .inr (.inl g0.2)))]) (w1 := wK A cc g1) hP hD [0, 1, 2, 3, 4, 5, 6, 7, 8, 9] [10] rfl rfl (by decide) (by decide) hk1 hFc hP1 hD1
  have hP := hP.sub (ws' := wX A cc (g1, g0.2)) [1, 2, 3, 4, 5, 6, 7, 8, 9, 10, 0] rfl
  have hD := hD.sub (ws' := wX A cc (g1, g0.2)) [1, 2, 3, 4, 5, 6, 7, 8, 9, 10, 0] (by decide) rfl
  refine va_last hx hb hK hP hD hS 10 7 rfl rfl (show vp_in 0 1 by unfold vp_in; decide) d_L_recover_15 (fun H locs hP hD hS => ?_)
  have hP : va_P D vwC (wX A cc (g1, (vp_updL g0.2 (Int32.toNatClampNeg 0) r1))) H := hP
  have hD : va_D AA (wX A cc (g1, (vp_updL g0.2 (Int32.toNatClampNeg 0) r1))) := hD
  refine lv_goto hx hb d_L_recover_16 (tgt := 27) (by decide) ?_
  refine lv_iconst (v := 0) hx hb d_L_recover_27 (by decide) ?_
  obtain rfl := Option.some.inj hF
  refine W.widen (k := 1) (n := 6) (Nat.le_of_ble_eq_true rfl) (Nat.le_of_ble_eq_true rfl) ?_
  exact W.iret hx hb hr (fun t ht hW => ⟨⟨_, _, rfl, rfl, bw_end hP hK hD ht hW⟩, hS.F ht⟩) hS.2.2 d_L_recover_28
def f_L_prove (g0 : sX) (a0 : Int32) (a1 : Int64) (a2 : Int64) : Option (Int32 × sX) := Option.bind (f_K_prove g0.1 a0 a1 a2) (fun x1 => match x1 with | .error (E1, gE) => (if E1 = "java/lang/IndexOutOfBoundsException" then some (1, (gE, g0.2)) else if E1 = "java/lang/IllegalStateException" then some (2, (gE, g0.2)) else if E1 = "java/lang/UnsupportedOperationException" then some (3, (gE, g0.2)) else none) | .ok (r1, g1) => (some (0, (g1, (vp_updL g0.2 (Int32.toNatClampNeg 0) r1)))))
abbrev rm_L_prove : Room := { frames := 8, cells := 1, slots := 6, locals := 159 }
set_option maxHeartbeats 4000000 in
set_option maxRecDepth 100000 in
theorem k_L_prove (l : Launch) (hl0 : l.stackTraces = false) (D : va_G) (A : Nat → Nat) (cc : Nat → ClassId) (g0 : sX) (a0 : Int32) (a1 : Int64) (a2 : Int64) (sz : Nat) (res : Int32 × sX) (hF : f_L_prove g0 a0 a1 a2 = some res) : Met l y_L_prove (Cond.codeWith y_L_prove b_L_prove 8 (some .int) [(0, 12, 15, 13), (0, 12, 19, 42), (0, 12, 23, 44)] :: wa) rm_L_prove (pwl D (wX A cc g0) (kX cc) [.ref (A 0), .int a0, .long a1, .long a2, .ref (A 10)] sz) (va_Qi (fun r u => (r, u) = res) (bw D (wX A cc) (kX cc) (va_A (wX A cc g0) sz)) (va_A (wX A cc g0) sz)) 1 6 (va_A (wX A cc g0) sz) := by
  refine va_MetW (cc := b_L_prove) (maxL := 8) (ret := some .int) (hh := [(0, 12, 15, 13), (0, 12, 19, 42), (0, 12, 23, 44)]) (by decide) rfl ?_
  intro p e s m args below meth c s₁ B hml hv
  obtain ⟨⟨⟨rfl, hsz, hP, hK, hD0, hN⟩, hX, hZ⟩, hC⟩ := hv
  have hx := B.exec
  have hb := B.bytes
  have hr := B.returns
  have hts := atoms_spec (ws := Cond.codeWith y_L_prove b_L_prove 8 (some .int) [(0, 12, 15, 13), (0, 12, 19, 42), (0, 12, 23, 44)] :: wa) B.pre
  have hw : ∀ w ∈ wa, w.before _ s = true := fun w h => hts w (List.mem_cons_of_mem _ h)
  have hown : s.vm.findClass R_L = some m.cls := findClass_of_methodNamed B.named
  have hlocks := B.notSynchronized
  have htab : c.exceptionTable.toList = [⟨0, 12, 15, 13⟩, ⟨0, 12, 19, 42⟩, ⟨0, 12, 23, 44⟩] := vx_table (x := y_L_prove) B (hts _ List.mem_cons_self)
  subst hsz
  have hD := hD0.self (sz := s.heap.size)
  generalize hAe : va_A (wX A cc g0) s.heap.size = AA at hD hZ ⊢
  have hA : ∀ q : Nat, s.heap.size ≤ q → AA q := fun q h => by rw [← hAe]; exact Or.inr h
  have hS : va_S AA s.heap s.heap [] := va_S.rf
  have hl := lv_entry ([.ref (A 0), .int a0, .long a1, .long a2, .ref (A 10)]) (n := 8) (Nat.le_of_ble_eq_true rfl)
  rw [lg_entry_eq]
  generalize (lg_sl ([.ref (A 0), .int a0, .long a1, .long a2, .ref (A 10)]) ++ List.replicate (8 - (lg_sl ([.ref (A 0), .int a0, .long a1, .long a2, .ref (A 10)])).length) Slot.unset).toArray = ls at hl ⊢
  have hl : lv_has ls 8 [(0, .ref (A 0)), (1, .int a0), (2, .long a1), (4, .long a2), (6, .ref (A 10))] := hl
  unfold f_L_prove at hF
  obtain ⟨x1, e1, hF⟩ := Option.bind_eq_some_iff.mp hF
  refine lv_aload hx hb d_L_prove_0 (lv_at hl 4 rfl) ?_
  refine lv_iconst (v := 0) hx hb d_L_prove_2 (by decide) ?_
  refine lv_aload_n hx hb d_L_prove_3 rfl (lv_at hl 0 rfl) ?_
  refine lv_iload_n hx hb d_L_prove_4 rfl (lv_at hl 1 rfl) ?_
  refine lv_lload_n hx hb d_L_prove_5 rfl (lv_at hl 2 rfl) ?_
  refine lv_lload hx hb d_L_prove_6 (lv_at hl 3 rfl) ?_
  have hPc := hP.sub (ws' := wK A cc g0.1) [0, 1, 2, 3, 4, 5, 6, 7, 8, 9] rfl
  have hDc := hD.sub (ws' := wK A cc g0.1) [0, 1, 2, 3, 4, 5, 6, 7, 8, 9] (by decide) rfl
  have hKc := hK.sub (tys' := kK cc) [0, 1, 2, 3, 4, 5, 6] rfl
  have hFc := va_free (wc := wK A cc g0.1) hD hS hA [0, 1, 2, 3, 4, 5, 6, 7, 8, 9] rfl
  rcases x1 with ⟨E1, gE⟩ | ⟨r1, g1⟩
  · refine vx_calll (vx_runV (As := [.int a0, .long a1, .long a2]) (rest := [.int 0, .ref (A 10)]) ⟨hx, hb, hml, hown, hts⟩ (k_K_prove_er l hl0 D A cc g0.1 a0 a1 a2 _ _ _ e1) (cwV 3 hts (ga_V ww_459 ww_460 ww_461 ww_1 ww_462) rfl rfl rfl (by decide +kernel) ⟨by decide, by decide⟩) (pwx_pre (q0 := 0) (ci := 2) hPc hKc hDc hN hX hZ hS hFc rfl rfl) rfl rfl hl.1 rfl (lv_room (Nat.le_of_ble_eq_true rfl)) d_L_prove_8 ⟨Nat.le_of_ble_eq_true rfl, Nat.le_of_ble_eq_true rfl⟩) hS (fun q _ h => hFc q h) hFc (fun q _ h => hFc q h) (fun E ce q9 u t H1 locs ht hvm hpx hBX hz hk hS hce hcv hcl => ?_) (fun r9 u t H1 locs _ _ hp _ _ _ _ => hp.elim)
    obtain rfl : gE = u := hpx.symm
    obtain ⟨hEE, hB⟩ := hBX
    have hcl : s.vm.findClass E1 = some ce.cls := hEE ▸ hcl
    obtain ⟨hP1, hK1, hD1⟩ := hB
    rw [ht] at hP1
    obtain ⟨hP, hD⟩ := va_join (wr := [(A 10, .inl (cc 10, 1, .inr (.inl g0.2)))]) (w1 := wK A cc gE) hP hD [0, 1, 2, 3, 4, 5, 6, 7, 8, 9] [10] rfl rfl (by decide) (by decide) hk hFc hP1 hD1
    have hP := hP.sub (ws' := wX A cc (gE, g0.2)) [1, 2, 3, 4, 5, 6, 7, 8, 9, 10, 0] rfl
    have hD := hD.sub (ws' := wX A cc (gE, g0.2)) [1, 2, 3, 4, 5, 6, 7, 8, 9, 10, 0] (by decide) rfl
    by_cases h0 : E1 = "java/lang/IndexOutOfBoundsException"
    · have hF := (if_pos h0).symm.trans hF
      subst h0
      refine vx_catch (name := "java/lang/IndexOutOfBoundsException") hown [] ⟨0, 12, 15, 13⟩ [⟨0, 12, 19, 42⟩, ⟨0, 12, 23, 44⟩] htab (fun z hz => nomatch hz) (by decide) (by decide) (hw _ ww_219) (va_Nw.use rfl (hX _ xm_0)) hce hcv hcl ?_
      refine lv_astore hx hb d_L_prove_15 hl (by decide) (lv' := [(7, .ref q9), (0, .ref (A 0)), (1, .int a0), (2, .long a1), (4, .long a2), (6, .ref (A 10))]) rfl (fun ls hl => ?_)
      refine lv_iconst (v := 1) hx hb d_L_prove_17 (by decide) ?_
      obtain rfl := Option.some.inj hF
      exact W.iret hx hb hr (fun t ht hW => ⟨⟨_, _, rfl, rfl, bw_end hP hK hD ht hW⟩, hS.F ht⟩) hS.2.2 d_L_prove_18
    have hF := (if_neg h0).symm.trans hF
    by_cases h1 : E1 = "java/lang/IllegalStateException"
    · have hF := (if_pos h1).symm.trans hF
      subst h1
      refine vx_catch (name := "java/lang/IllegalStateException") hown [⟨0, 12, 15, 13⟩] ⟨0, 12, 19, 42⟩ [⟨0, 12, 23, 44⟩] htab (fun z hz => by
        simp only [List.mem_cons, List.not_mem_nil, or_false] at hz
        rcases hz with rfl
        · exact Or.inr ⟨by decide, "java/lang/IndexOutOfBoundsException", hw _ ww_219, hC _ xp_2⟩) (by decide) (by decide) (hw _ ww_388) (va_Nw.use rfl (hX _ xm_9)) hce hcv hcl ?_
      refine lv_astore hx hb d_L_prove_19 hl (by decide) (lv' := [(7, .ref q9), (0, .ref (A 0)), (1, .int a0), (2, .long a1), (4, .long a2), (6, .ref (A 10))]) rfl (fun ls hl => ?_)
      refine lv_iconst (v := 2) hx hb d_L_prove_21 (by decide) ?_
      obtain rfl := Option.some.inj hF
      exact W.iret hx hb hr (fun t ht hW => ⟨⟨_, _, rfl, rfl, bw_end hP hK hD ht hW⟩, hS.F ht⟩) hS.2.2 d_L_prove_22
    have hF := (if_neg h1).symm.trans hF
    by_cases h2 : E1 = "java/lang/UnsupportedOperationException"
    · have hF := (if_pos h2).symm.trans hF
      subst h2
      refine vx_catch (name := "java/lang/UnsupportedOperationException") hown [⟨0, 12, 15, 13⟩, ⟨0, 12, 19, 42⟩] ⟨0, 12, 23, 44⟩ [] htab (fun z hz => by
        simp only [List.mem_cons, List.not_mem_nil, or_false] at hz
        rcases hz with rfl | rfl
        · exact Or.inr ⟨by decide, "java/lang/IndexOutOfBoundsException", hw _ ww_219, hC _ xp_3⟩
        · exact Or.inr ⟨by decide, "java/lang/IllegalStateException", hw _ ww_388, hC _ xp_15⟩) (by decide) (by decide) (hw _ ww_389) (va_Nw.use rfl (hX _ xm_10)) hce hcv hcl ?_
      refine lv_astore hx hb d_L_prove_23 hl (by decide) (lv' := [(7, .ref q9), (0, .ref (A 0)), (1, .int a0), (2, .long a1), (4, .long a2), (6, .ref (A 10))]) rfl (fun ls hl => ?_)
      refine lv_iconst (v := 3) hx hb d_L_prove_25 (by decide) ?_
      obtain rfl := Option.some.inj hF
      exact W.iret hx hb hr (fun t ht hW => ⟨⟨_, _, rfl, rfl, bw_end hP hK hD ht hW⟩, hS.F ht⟩) hS.2.2 d_L_prove_26
    have hF := (if_neg h2).symm.trans hF
    cases hF
  refine va_calll (va_runV (As := [.int a0, .long a1, .long a2]) (rest := [.int 0, .ref (A 10)]) ⟨hx, hb, hml, hown, hts⟩ (k_K_prove_ok l D A cc g0.1 a0 a1 a2 _ (r1, g1) e1) (cwV 3 hts (ga_V ww_459 ww_460 ww_461 ww_1 ww_462) rfl rfl rfl (by decide +kernel) ⟨by decide, by decide⟩) (pw_pre (q0 := 0) (ci := 2) hPc hKc hDc hN rfl rfl) rfl rfl hl.1 rfl (lv_room (Nat.le_of_ble_eq_true rfl)) d_L_prove_8 ⟨Nat.zero_le _, Nat.zero_le _⟩) hS (fun q _ h => hFc q h) hFc (fun r9 u9 t H1 locs ht hvm hp hB hz1 hk1 hS => ?_)
  obtain ⟨rfl, rfl⟩ := Prod.mk.inj hp.symm
  obtain ⟨hP1, hK1, hD1⟩ := hB
  rw [ht] at hP1
  obtain ⟨hP, hD⟩ := va_join (wr := [(A 10, .inl (cc 10, 1, .inr (.inl g0.2)))]) (w1 := wK A cc g1) hP hD [0, 1, 2, 3, 4, 5, 6, 7, 8, 9] [10] rfl rfl (by decide) (by decide) hk1 hFc hP1 hD1
  have hP := hP.sub (ws' := wX A cc (g1, g0.2)) [1, 2, 3, 4, 5, 6, 7, 8, 9, 10, 0] rfl
  have hD := hD.sub (ws' := wX A cc (g1, g0.2)) [1, 2, 3, 4, 5, 6, 7, 8, 9, 10, 0] (by decide) rfl
  refine va_last hx hb hK hP hD hS 10 7 rfl rfl (show vp_in 0 1 by unfold vp_in; decide) d_L_prove_11 (fun H locs hP hD hS => ?_)
  have hP : va_P D vwC (wX A cc (g1, (vp_updL g0.2 (Int32.toNatClampNeg 0) r1))) H := hP
  have hD : va_D AA (wX A cc (g1, (vp_updL g0.2 (Int32.toNatClampNeg 0) r1))) := hD
  refine lv_goto hx hb d_L_prove_12 (tgt := 27) (by decide) ?_
  refine lv_iconst (v := 0) hx hb d_L_prove_27 (by decide) ?_
  obtain rfl := Option.some.inj hF
  refine W.widen (k := 1) (n := 6) (Nat.le_of_ble_eq_true rfl) (Nat.le_of_ble_eq_true rfl) ?_
  exact W.iret hx hb hr (fun t ht hW => ⟨⟨_, _, rfl, rfl, bw_end hP hK hD ht hW⟩, hS.F ht⟩) hS.2.2 d_L_prove_28
def f_L_holds (g0 : sX) (a0 : Int32) (a1 : Int64) (a2 : Int32) (a3 : Int32) : Option (Int32 × sX) := Option.bind (f_K_holds g0.1 a0 a1 a2 a3) (fun x1 => match x1 with | .error (E1, gE) => (if E1 = "java/lang/IndexOutOfBoundsException" then some (1, (gE, g0.2)) else if E1 = "java/util/NoSuchElementException" then some (2, (gE, g0.2)) else none) | .ok (r1, g1) => (if r1 = 0 then some (0, (g1, (vp_updL g0.2 (Int32.toNatClampNeg 0) 0))) else some (0, (g1, (vp_updL g0.2 (Int32.toNatClampNeg 0) 1)))))
abbrev rm_L_holds : Room := { frames := 8, cells := 1, slots := 6, locals := 178 }
set_option maxHeartbeats 4000000 in
set_option maxRecDepth 100000 in
theorem k_L_holds (l : Launch) (hl0 : l.stackTraces = false) (D : va_G) (A : Nat → Nat) (cc : Nat → ClassId) (g0 : sX) (a0 : Int32) (a1 : Int64) (a2 : Int32) (a3 : Int32) (sz : Nat) (res : Int32 × sX) (hF : f_L_holds g0 a0 a1 a2 a3 = some res) : Met l y_L_holds (Cond.codeWith y_L_holds b_L_holds 8 (some .int) [(0, 22, 25, 13), (0, 22, 29, 29)] :: wa) rm_L_holds (pwl D (wX A cc g0) (kX cc) [.ref (A 0), .int a0, .long a1, .int a2, .int a3, .ref (A 10)] sz) (va_Qi (fun r u => (r, u) = res) (bw D (wX A cc) (kX cc) (va_A (wX A cc g0) sz)) (va_A (wX A cc g0) sz)) 1 6 (va_A (wX A cc g0) sz) := by
  refine va_MetW (cc := b_L_holds) (maxL := 8) (ret := some .int) (hh := [(0, 22, 25, 13), (0, 22, 29, 29)]) (by decide) rfl ?_
  intro p e s m args below meth c s₁ B hml hv
  obtain ⟨⟨⟨rfl, hsz, hP, hK, hD0, hN⟩, hX, hZ⟩, hC⟩ := hv
  have hx := B.exec
  have hb := B.bytes
  have hr := B.returns
  have hts := atoms_spec (ws := Cond.codeWith y_L_holds b_L_holds 8 (some .int) [(0, 22, 25, 13), (0, 22, 29, 29)] :: wa) B.pre
  have hw : ∀ w ∈ wa, w.before _ s = true := fun w h => hts w (List.mem_cons_of_mem _ h)
  have hown : s.vm.findClass R_L = some m.cls := findClass_of_methodNamed B.named
  have hlocks := B.notSynchronized
  have htab : c.exceptionTable.toList = [⟨0, 22, 25, 13⟩, ⟨0, 22, 29, 29⟩] := vx_table (x := y_L_holds) B (hts _ List.mem_cons_self)
  subst hsz
  have hD := hD0.self (sz := s.heap.size)
  generalize hAe : va_A (wX A cc g0) s.heap.size = AA at hD hZ ⊢
  have hA : ∀ q : Nat, s.heap.size ≤ q → AA q := fun q h => by rw [← hAe]; exact Or.inr h
  have hS : va_S AA s.heap s.heap [] := va_S.rf
  have hl := lv_entry ([.ref (A 0), .int a0, .long a1, .int a2, .int a3, .ref (A 10)]) (n := 8) (Nat.le_of_ble_eq_true rfl)
  rw [lg_entry_eq]
  generalize (lg_sl ([.ref (A 0), .int a0, .long a1, .int a2, .int a3, .ref (A 10)]) ++ List.replicate (8 - (lg_sl ([.ref (A 0), .int a0, .long a1, .int a2, .int a3, .ref (A 10)])).length) Slot.unset).toArray = ls at hl ⊢
  have hl : lv_has ls 8 [(0, .ref (A 0)), (1, .int a0), (2, .long a1), (4, .int a2), (5, .int a3), (6, .ref (A 10))] := hl
  unfold f_L_holds at hF
  obtain ⟨x1, e1, hF⟩ := Option.bind_eq_some_iff.mp hF
  refine lv_aload hx hb d_L_holds_0 (lv_at hl 5 rfl) ?_
  refine lv_iconst (v := 0) hx hb d_L_holds_2 (by decide) ?_
  refine lv_aload_n hx hb d_L_holds_3 rfl (lv_at hl 0 rfl) ?_
  refine lv_iload_n hx hb d_L_holds_4 rfl (lv_at hl 1 rfl) ?_
  refine lv_lload_n hx hb d_L_holds_5 rfl (lv_at hl 2 rfl) ?_
  refine lv_iload hx hb d_L_holds_6 (lv_at hl 3 rfl) ?_
  refine lv_iload hx hb d_L_holds_8 (lv_at hl 4 rfl) ?_
  have hPc := hP.sub (ws' := wK A cc g0.1) [0, 1, 2, 3, 4, 5, 6, 7, 8, 9] rfl
  have hDc := hD.sub (ws' := wK A cc g0.1) [0, 1, 2, 3, 4, 5, 6, 7, 8, 9] (by decide) rfl
  have hKc := hK.sub (tys' := kK cc) [0, 1, 2, 3, 4, 5, 6] rfl
  have hFc := va_free (wc := wK A cc g0.1) hD hS hA [0, 1, 2, 3, 4, 5, 6, 7, 8, 9] rfl
  rcases x1 with ⟨E1, gE⟩ | ⟨r1, g1⟩
  · refine vx_calli (vx_runV (As := [.int a0, .long a1, .int a2, .int a3]) (rest := [.int 0, .ref (A 10)]) ⟨hx, hb, hml, hown, hts⟩ (k_K_holds_er l hl0 D A cc g0.1 a0 a1 a2 a3 _ _ _ e1) (cwV 4 hts (ga_V ww_471 ww_472 ww_473 ww_1 ww_474) rfl rfl rfl (by decide +kernel) ⟨by decide, by decide⟩) (pwx_pre (q0 := 0) (ci := 2) hPc hKc hDc hN hX hZ hS hFc rfl rfl) rfl rfl hl.1 rfl (lv_room (Nat.le_of_ble_eq_true rfl)) d_L_holds_10 ⟨Nat.le_of_ble_eq_true rfl, Nat.le_of_ble_eq_true rfl⟩) hS (fun q _ h => hFc q h) hFc (fun q _ h => hFc q h) (fun E ce q9 u t H1 locs ht hvm hpx hBX hz hk hS hce hcv hcl => ?_) (fun r9 u t H1 locs _ _ hp _ _ _ _ => hp.elim)
    obtain rfl : gE = u := hpx.symm
    obtain ⟨hEE, hB⟩ := hBX
    have hcl : s.vm.findClass E1 = some ce.cls := hEE ▸ hcl
    obtain ⟨hP1, hK1, hD1⟩ := hB
    rw [ht] at hP1
    obtain ⟨hP, hD⟩ := va_join (wr := [(A 10, .inl (cc 10, 1, .inr (.inl g0.2)))]) (w1 := wK A cc gE) hP hD [0, 1, 2, 3, 4, 5, 6, 7, 8, 9] [10] rfl rfl (by decide) (by decide) hk hFc hP1 hD1
    have hP := hP.sub (ws' := wX A cc (gE, g0.2)) [1, 2, 3, 4, 5, 6, 7, 8, 9, 10, 0] rfl
    have hD := hD.sub (ws' := wX A cc (gE, g0.2)) [1, 2, 3, 4, 5, 6, 7, 8, 9, 10, 0] (by decide) rfl
    by_cases h0 : E1 = "java/lang/IndexOutOfBoundsException"
    · have hF := (if_pos h0).symm.trans hF
      subst h0
      refine vx_catch (name := "java/lang/IndexOutOfBoundsException") hown [] ⟨0, 22, 25, 13⟩ [⟨0, 22, 29, 29⟩] htab (fun z hz => nomatch hz) (by decide) (by decide) (hw _ ww_219) (va_Nw.use rfl (hX _ xm_0)) hce hcv hcl ?_
      refine lv_astore hx hb d_L_holds_25 hl (by decide) (lv' := [(7, .ref q9), (0, .ref (A 0)), (1, .int a0), (2, .long a1), (4, .int a2), (5, .int a3), (6, .ref (A 10))]) rfl (fun ls hl => ?_)
      refine lv_iconst (v := 1) hx hb d_L_holds_27 (by decide) ?_
      obtain rfl := Option.some.inj hF
      exact W.iret hx hb hr (fun t ht hW => ⟨⟨_, _, rfl, rfl, bw_end hP hK hD ht hW⟩, hS.F ht⟩) hS.2.2 d_L_holds_28
    have hF := (if_neg h0).symm.trans hF
    by_cases h1 : E1 = "java/util/NoSuchElementException"
    · have hF := (if_pos h1).symm.trans hF
      subst h1
      refine vx_catch (name := "java/util/NoSuchElementException") hown [⟨0, 22, 25, 13⟩] ⟨0, 22, 29, 29⟩ [] htab (fun z hz => by
        simp only [List.mem_cons, List.not_mem_nil, or_false] at hz
        rcases hz with rfl
        · exact Or.inr ⟨by decide, "java/lang/IndexOutOfBoundsException", hw _ ww_219, hC _ xp_1⟩) (by decide) (by decide) (hw _ ww_341) (va_Nw.use rfl (hX _ xm_8)) hce hcv hcl ?_
      refine lv_astore hx hb d_L_holds_29 hl (by decide) (lv' := [(7, .ref q9), (0, .ref (A 0)), (1, .int a0), (2, .long a1), (4, .int a2), (5, .int a3), (6, .ref (A 10))]) rfl (fun ls hl => ?_)
      refine lv_iconst (v := 2) hx hb d_L_holds_31 (by decide) ?_
      obtain rfl := Option.some.inj hF
      exact W.iret hx hb hr (fun t ht hW => ⟨⟨_, _, rfl, rfl, bw_end hP hK hD ht hW⟩, hS.F ht⟩) hS.2.2 d_L_holds_32
    have hF := (if_neg h1).symm.trans hF
    cases hF
  refine va_calli (va_runV (As := [.int a0, .long a1, .int a2, .int a3]) (rest := [.int 0, .ref (A 10)]) ⟨hx, hb, hml, hown, hts⟩ (k_K_holds_ok l D A cc g0.1 a0 a1 a2 a3 _ (r1, g1) e1) (cwV 4 hts (ga_V ww_471 ww_472 ww_473 ww_1 ww_474) rfl rfl rfl (by decide +kernel) ⟨by decide, by decide⟩) (pw_pre (q0 := 0) (ci := 2) hPc hKc hDc hN rfl rfl) rfl rfl hl.1 rfl (lv_room (Nat.le_of_ble_eq_true rfl)) d_L_holds_10 ⟨Nat.zero_le _, Nat.zero_le _⟩) hS (fun q _ h => hFc q h) hFc (fun r9 u9 t H1 locs ht hvm hp hB hz1 hk1 hS => ?_)
  obtain ⟨rfl, rfl⟩ := Prod.mk.inj hp.symm
  obtain ⟨hP1, hK1, hD1⟩ := hB
  rw [ht] at hP1
  obtain ⟨hP, hD⟩ := va_join (wr := [(A 10, .inl (cc 10, 1, .inr (.inl g0.2)))]) (w1 := wK A cc g1) hP hD [0, 1, 2, 3, 4, 5, 6, 7, 8, 9] [10] rfl rfl (by decide) (by decide) hk1 hFc hP1 hD1
  have hP := hP.sub (ws' := wX A cc (g1, g0.2)) [1, 2, 3, 4, 5, 6, 7, 8, 9, 10, 0] rfl
  have hD := hD.sub (ws' := wX A cc (g1, g0.2)) [1, 2, 3, 4, 5, 6, 7, 8, 9, 10, 0] (by decide) rfl
  refine lv_if_eq hx hb d_L_holds_13 (tgt := 20) (by decide) (fun h9 => ?_) (fun h9 => ?_)
  · have hF := (if_pos h9).symm.trans hF
    refine lv_lconst (v := 0) hx hb d_L_holds_20 (by decide) ?_
    refine va_last hx hb hK hP hD hS 10 7 rfl rfl (show vp_in 0 1 by unfold vp_in; decide) d_L_holds_21 (fun H locs hP hD hS => ?_)
    have hP : va_P D vwC (wX A cc (g1, (vp_updL g0.2 (Int32.toNatClampNeg 0) 0))) H := hP
    have hD : va_D AA (wX A cc (g1, (vp_updL g0.2 (Int32.toNatClampNeg 0) 0))) := hD
    refine lv_goto hx hb d_L_holds_22 (tgt := 33) (by decide) ?_
    refine lv_iconst (v := 0) hx hb d_L_holds_33 (by decide) ?_
    obtain rfl := Option.some.inj hF
    refine W.widen (k := 1) (n := 6) (Nat.le_of_ble_eq_true rfl) (Nat.le_of_ble_eq_true rfl) ?_
    exact W.iret hx hb hr (fun t ht hW => ⟨⟨_, _, rfl, rfl, bw_end hP hK hD ht hW⟩, hS.F ht⟩) hS.2.2 d_L_holds_34
  · have hF := (if_neg h9).symm.trans hF
    refine lv_lconst (v := 1) hx hb d_L_holds_16 (by decide) ?_
    refine lv_goto hx hb d_L_holds_17 (tgt := 21) (by decide) ?_
    refine va_last hx hb hK hP hD hS 10 7 rfl rfl (show vp_in 0 1 by unfold vp_in; decide) d_L_holds_21 (fun H locs hP hD hS => ?_)
    have hP : va_P D vwC (wX A cc (g1, (vp_updL g0.2 (Int32.toNatClampNeg 0) 1))) H := hP
    have hD : va_D AA (wX A cc (g1, (vp_updL g0.2 (Int32.toNatClampNeg 0) 1))) := hD
    refine lv_goto hx hb d_L_holds_22 (tgt := 33) (by decide) ?_
    refine lv_iconst (v := 0) hx hb d_L_holds_33 (by decide) ?_
    obtain rfl := Option.some.inj hF
    refine W.widen (k := 1) (n := 6) (Nat.le_of_ble_eq_true rfl) (Nat.le_of_ble_eq_true rfl) ?_
    exact W.iret hx hb hr (fun t ht hW => ⟨⟨_, _, rfl, rfl, bw_end hP hK hD ht hW⟩, hS.F ht⟩) hS.2.2 d_L_holds_34
def f_L_bundle (g0 : sX) (a0 : Int32) (a1 : Int64) (a2 : Int32) (a3 : Int32) : Option (Int32 × sX) := Option.bind (f_K_bundle g0.1 a0 a1 a2 a3) (fun x1 => match x1 with | .error (E1, gE) => (if E1 = "java/lang/IndexOutOfBoundsException" then some (1, (gE, g0.2)) else if E1 = "java/util/NoSuchElementException" then some (2, (gE, g0.2)) else if E1 = "java/lang/UnsupportedOperationException" then some (3, (gE, g0.2)) else none) | .ok (r1, g1) => (some (0, (g1, (vp_updL g0.2 (Int32.toNatClampNeg 0) (Int32.toInt64 r1))))))
abbrev rm_L_bundle : Room := { frames := 8, cells := 1, slots := 6, locals := 138 }
set_option maxHeartbeats 4000000 in
set_option maxRecDepth 100000 in
theorem k_L_bundle (l : Launch) (hl0 : l.stackTraces = false) (D : va_G) (A : Nat → Nat) (cc : Nat → ClassId) (g0 : sX) (a0 : Int32) (a1 : Int64) (a2 : Int32) (a3 : Int32) (sz : Nat) (res : Int32 × sX) (hF : f_L_bundle g0 a0 a1 a2 a3 = some res) : Met l y_L_bundle (Cond.codeWith y_L_bundle b_L_bundle 8 (some .int) [(0, 15, 18, 13), (0, 15, 22, 29), (0, 15, 26, 44)] :: wa) rm_L_bundle (pwl D (wX A cc g0) (kX cc) [.ref (A 0), .int a0, .long a1, .int a2, .int a3, .ref (A 10)] sz) (va_Qi (fun r u => (r, u) = res) (bw D (wX A cc) (kX cc) (va_A (wX A cc g0) sz)) (va_A (wX A cc g0) sz)) 1 6 (va_A (wX A cc g0) sz) := by
  refine va_MetW (cc := b_L_bundle) (maxL := 8) (ret := some .int) (hh := [(0, 15, 18, 13), (0, 15, 22, 29), (0, 15, 26, 44)]) (by decide) rfl ?_
  intro p e s m args below meth c s₁ B hml hv
  obtain ⟨⟨⟨rfl, hsz, hP, hK, hD0, hN⟩, hX, hZ⟩, hC⟩ := hv
  have hx := B.exec
  have hb := B.bytes
  have hr := B.returns
  have hts := atoms_spec (ws := Cond.codeWith y_L_bundle b_L_bundle 8 (some .int) [(0, 15, 18, 13), (0, 15, 22, 29), (0, 15, 26, 44)] :: wa) B.pre
  have hw : ∀ w ∈ wa, w.before _ s = true := fun w h => hts w (List.mem_cons_of_mem _ h)
  have hown : s.vm.findClass R_L = some m.cls := findClass_of_methodNamed B.named
  have hlocks := B.notSynchronized
  have htab : c.exceptionTable.toList = [⟨0, 15, 18, 13⟩, ⟨0, 15, 22, 29⟩, ⟨0, 15, 26, 44⟩] := vx_table (x := y_L_bundle) B (hts _ List.mem_cons_self)
  subst hsz
  have hD := hD0.self (sz := s.heap.size)
  generalize hAe : va_A (wX A cc g0) s.heap.size = AA at hD hZ ⊢
  have hA : ∀ q : Nat, s.heap.size ≤ q → AA q := fun q h => by rw [← hAe]; exact Or.inr h
  have hS : va_S AA s.heap s.heap [] := va_S.rf
  have hl := lv_entry ([.ref (A 0), .int a0, .long a1, .int a2, .int a3, .ref (A 10)]) (n := 8) (Nat.le_of_ble_eq_true rfl)
  rw [lg_entry_eq]
  generalize (lg_sl ([.ref (A 0), .int a0, .long a1, .int a2, .int a3, .ref (A 10)]) ++ List.replicate (8 - (lg_sl ([.ref (A 0), .int a0, .long a1, .int a2, .int a3, .ref (A 10)])).length) Slot.unset).toArray = ls at hl ⊢
  have hl : lv_has ls 8 [(0, .ref (A 0)), (1, .int a0), (2, .long a1), (4, .int a2), (5, .int a3), (6, .ref (A 10))] := hl
  unfold f_L_bundle at hF
  obtain ⟨x1, e1, hF⟩ := Option.bind_eq_some_iff.mp hF
  refine lv_aload hx hb d_L_bundle_0 (lv_at hl 5 rfl) ?_
  refine lv_iconst (v := 0) hx hb d_L_bundle_2 (by decide) ?_
  refine lv_aload_n hx hb d_L_bundle_3 rfl (lv_at hl 0 rfl) ?_
  refine lv_iload_n hx hb d_L_bundle_4 rfl (lv_at hl 1 rfl) ?_
  refine lv_lload_n hx hb d_L_bundle_5 rfl (lv_at hl 2 rfl) ?_
  refine lv_iload hx hb d_L_bundle_6 (lv_at hl 3 rfl) ?_
  refine lv_iload hx hb d_L_bundle_8 (lv_at hl 4 rfl) ?_
  have hPc := hP.sub (ws' := wK A cc g0.1) [0, 1, 2, 3, 4, 5, 6, 7, 8, 9] rfl
  have hDc := hD.sub (ws' := wK A cc g0.1) [0, 1, 2, 3, 4, 5, 6, 7, 8, 9] (by decide) rfl
  have hKc := hK.sub (tys' := kK cc) [0, 1, 2, 3, 4, 5, 6] rfl
  have hFc := va_free (wc := wK A cc g0.1) hD hS hA [0, 1, 2, 3, 4, 5, 6, 7, 8, 9] rfl
  rcases x1 with ⟨E1, gE⟩ | ⟨r1, g1⟩
  · refine vx_calli (vx_runV (As := [.int a0, .long a1, .int a2, .int a3]) (rest := [.int 0, .ref (A 10)]) ⟨hx, hb, hml, hown, hts⟩ (k_K_bundle_er l hl0 D A cc g0.1 a0 a1 a2 a3 _ _ _ e1) (cwV 4 hts (ga_V ww_482 ww_483 ww_484 ww_1 ww_485) rfl rfl rfl (by decide +kernel) ⟨by decide, by decide⟩) (pwx_pre (q0 := 0) (ci := 2) hPc hKc hDc hN hX hZ hS hFc rfl rfl) rfl rfl hl.1 rfl (lv_room (Nat.le_of_ble_eq_true rfl)) d_L_bundle_10 ⟨Nat.le_of_ble_eq_true rfl, Nat.le_of_ble_eq_true rfl⟩) hS (fun q _ h => hFc q h) hFc (fun q _ h => hFc q h) (fun E ce q9 u t H1 locs ht hvm hpx hBX hz hk hS hce hcv hcl => ?_) (fun r9 u t H1 locs _ _ hp _ _ _ _ => hp.elim)
    obtain rfl : gE = u := hpx.symm
    obtain ⟨hEE, hB⟩ := hBX
    have hcl : s.vm.findClass E1 = some ce.cls := hEE ▸ hcl
    obtain ⟨hP1, hK1, hD1⟩ := hB
    rw [ht] at hP1
    obtain ⟨hP, hD⟩ := va_join (wr := [(A 10, .inl (cc 10, 1, .inr (.inl g0.2)))]) (w1 := wK A cc gE) hP hD [0, 1, 2, 3, 4, 5, 6, 7, 8, 9] [10] rfl rfl (by decide) (by decide) hk hFc hP1 hD1
    have hP := hP.sub (ws' := wX A cc (gE, g0.2)) [1, 2, 3, 4, 5, 6, 7, 8, 9, 10, 0] rfl
    have hD := hD.sub (ws' := wX A cc (gE, g0.2)) [1, 2, 3, 4, 5, 6, 7, 8, 9, 10, 0] (by decide) rfl
    by_cases h0 : E1 = "java/lang/IndexOutOfBoundsException"
    · have hF := (if_pos h0).symm.trans hF
      subst h0
      refine vx_catch (name := "java/lang/IndexOutOfBoundsException") hown [] ⟨0, 15, 18, 13⟩ [⟨0, 15, 22, 29⟩, ⟨0, 15, 26, 44⟩] htab (fun z hz => nomatch hz) (by decide) (by decide) (hw _ ww_219) (va_Nw.use rfl (hX _ xm_0)) hce hcv hcl ?_
      refine lv_astore hx hb d_L_bundle_18 hl (by decide) (lv' := [(7, .ref q9), (0, .ref (A 0)), (1, .int a0), (2, .long a1), (4, .int a2), (5, .int a3), (6, .ref (A 10))]) rfl (fun ls hl => ?_)
      refine lv_iconst (v := 1) hx hb d_L_bundle_20 (by decide) ?_
      obtain rfl := Option.some.inj hF
      exact W.iret hx hb hr (fun t ht hW => ⟨⟨_, _, rfl, rfl, bw_end hP hK hD ht hW⟩, hS.F ht⟩) hS.2.2 d_L_bundle_21
    have hF := (if_neg h0).symm.trans hF
    by_cases h1 : E1 = "java/util/NoSuchElementException"
    · have hF := (if_pos h1).symm.trans hF
      subst h1
      refine vx_catch (name := "java/util/NoSuchElementException") hown [⟨0, 15, 18, 13⟩] ⟨0, 15, 22, 29⟩ [⟨0, 15, 26, 44⟩] htab (fun z hz => by
        simp only [List.mem_cons, List.not_mem_nil, or_false] at hz
        rcases hz with rfl
        · exact Or.inr ⟨by decide, "java/lang/IndexOutOfBoundsException", hw _ ww_219, hC _ xp_1⟩) (by decide) (by decide) (hw _ ww_341) (va_Nw.use rfl (hX _ xm_8)) hce hcv hcl ?_
      refine lv_astore hx hb d_L_bundle_22 hl (by decide) (lv' := [(7, .ref q9), (0, .ref (A 0)), (1, .int a0), (2, .long a1), (4, .int a2), (5, .int a3), (6, .ref (A 10))]) rfl (fun ls hl => ?_)
      refine lv_iconst (v := 2) hx hb d_L_bundle_24 (by decide) ?_
      obtain rfl := Option.some.inj hF
      exact W.iret hx hb hr (fun t ht hW => ⟨⟨_, _, rfl, rfl, bw_end hP hK hD ht hW⟩, hS.F ht⟩) hS.2.2 d_L_bundle_25
    have hF := (if_neg h1).symm.trans hF
    by_cases h2 : E1 = "java/lang/UnsupportedOperationException"
    · have hF := (if_pos h2).symm.trans hF
      subst h2
      refine vx_catch (name := "java/lang/UnsupportedOperationException") hown [⟨0, 15, 18, 13⟩, ⟨0, 15, 22, 29⟩] ⟨0, 15, 26, 44⟩ [] htab (fun z hz => by
        simp only [List.mem_cons, List.not_mem_nil, or_false] at hz
        rcases hz with rfl | rfl
        · exact Or.inr ⟨by decide, "java/lang/IndexOutOfBoundsException", hw _ ww_219, hC _ xp_3⟩
        · exact Or.inr ⟨by decide, "java/util/NoSuchElementException", hw _ ww_341, hC _ xp_11⟩) (by decide) (by decide) (hw _ ww_389) (va_Nw.use rfl (hX _ xm_10)) hce hcv hcl ?_
      refine lv_astore hx hb d_L_bundle_26 hl (by decide) (lv' := [(7, .ref q9), (0, .ref (A 0)), (1, .int a0), (2, .long a1), (4, .int a2), (5, .int a3), (6, .ref (A 10))]) rfl (fun ls hl => ?_)
      refine lv_iconst (v := 3) hx hb d_L_bundle_28 (by decide) ?_
      obtain rfl := Option.some.inj hF
      exact W.iret hx hb hr (fun t ht hW => ⟨⟨_, _, rfl, rfl, bw_end hP hK hD ht hW⟩, hS.F ht⟩) hS.2.2 d_L_bundle_29
    have hF := (if_neg h2).symm.trans hF
    cases hF
  refine va_calli (va_runV (As := [.int a0, .long a1, .int a2, .int a3]) (rest := [.int 0, .ref (A 10)]) ⟨hx, hb, hml, hown, hts⟩ (k_K_bundle_ok l D A cc g0.1 a0 a1 a2 a3 _ (r1, g1) e1) (cwV 4 hts (ga_V ww_482 ww_483 ww_484 ww_1 ww_485) rfl rfl rfl (by decide +kernel) ⟨by decide, by decide⟩) (pw_pre (q0 := 0) (ci := 2) hPc hKc hDc hN rfl rfl) rfl rfl hl.1 rfl (lv_room (Nat.le_of_ble_eq_true rfl)) d_L_bundle_10 ⟨Nat.zero_le _, Nat.zero_le _⟩) hS (fun q _ h => hFc q h) hFc (fun r9 u9 t H1 locs ht hvm hp hB hz1 hk1 hS => ?_)
  obtain ⟨rfl, rfl⟩ := Prod.mk.inj hp.symm
  obtain ⟨hP1, hK1, hD1⟩ := hB
  rw [ht] at hP1
  obtain ⟨hP, hD⟩ := va_join (wr := [(A 10, .inl (cc 10, 1, .inr (.inl g0.2)))]) (w1 := wK A cc g1) hP hD [0, 1, 2, 3, 4, 5, 6, 7, 8, 9] [10] rfl rfl (by decide) (by decide) hk1 hFc hP1 hD1
  have hP := hP.sub (ws' := wX A cc (g1, g0.2)) [1, 2, 3, 4, 5, 6, 7, 8, 9, 10, 0] rfl
  have hD := hD.sub (ws' := wX A cc (g1, g0.2)) [1, 2, 3, 4, 5, 6, 7, 8, 9, 10, 0] (by decide) rfl
  refine lv_i2l (v := Int32.toInt64 r1) hx hb d_L_bundle_13 rfl ?_
  refine va_last hx hb hK hP hD hS 10 7 rfl rfl (show vp_in 0 1 by unfold vp_in; decide) d_L_bundle_14 (fun H locs hP hD hS => ?_)
  have hP : va_P D vwC (wX A cc (g1, (vp_updL g0.2 (Int32.toNatClampNeg 0) (Int32.toInt64 r1)))) H := hP
  have hD : va_D AA (wX A cc (g1, (vp_updL g0.2 (Int32.toNatClampNeg 0) (Int32.toInt64 r1)))) := hD
  refine lv_goto hx hb d_L_bundle_15 (tgt := 30) (by decide) ?_
  refine lv_iconst (v := 0) hx hb d_L_bundle_30 (by decide) ?_
  obtain rfl := Option.some.inj hF
  refine W.widen (k := 1) (n := 6) (Nat.le_of_ble_eq_true rfl) (Nat.le_of_ble_eq_true rfl) ?_
  exact W.iret hx hb hr (fun t ht hW => ⟨⟨_, _, rfl, rfl, bw_end hP hK hD ht hW⟩, hS.F ht⟩) hS.2.2 d_L_bundle_31
def f_L_agree (g0 : sX) (a0 : Int32) (a1 : Int32) : Option (Int32 × sX) := Option.bind (f_K_agree g0.1 a0 a1) (fun x1 => match x1 with | .error (E1, gE) => (if E1 = "java/lang/IndexOutOfBoundsException" then some (1, (gE, g0.2)) else if E1 = "java/lang/IllegalStateException" then some (2, (gE, g0.2)) else if E1 = "java/util/NoSuchElementException" then some (3, (gE, g0.2)) else none) | .ok (r1, g1) => (some (0, (g1, (vp_updL g0.2 (Int32.toNatClampNeg 0) r1)))))
abbrev rm_L_agree : Room := { frames := 8, cells := 1, slots := 6, locals := 146 }
set_option maxHeartbeats 4000000 in
set_option maxRecDepth 100000 in
theorem k_L_agree (l : Launch) (hl0 : l.stackTraces = false) (D : va_G) (A : Nat → Nat) (cc : Nat → ClassId) (g0 : sX) (a0 : Int32) (a1 : Int32) (sz : Nat) (res : Int32 × sX) (hF : f_L_agree g0 a0 a1 = some res) : Met l y_L_agree (Cond.codeWith y_L_agree b_L_agree 5 (some .int) [(0, 9, 12, 13), (0, 9, 16, 42), (0, 9, 20, 29)] :: wa) rm_L_agree (pwl D (wX A cc g0) (kX cc) [.ref (A 0), .int a0, .int a1, .ref (A 10)] sz) (va_Qi (fun r u => (r, u) = res) (bw D (wX A cc) (kX cc) (va_A (wX A cc g0) sz)) (va_A (wX A cc g0) sz)) 1 6 (va_A (wX A cc g0) sz) := by
  refine va_MetW (cc := b_L_agree) (maxL := 5) (ret := some .int) (hh := [(0, 9, 12, 13), (0, 9, 16, 42), (0, 9, 20, 29)]) (by decide) rfl ?_
  intro p e s m args below meth c s₁ B hml hv
  obtain ⟨⟨⟨rfl, hsz, hP, hK, hD0, hN⟩, hX, hZ⟩, hC⟩ := hv
  have hx := B.exec
  have hb := B.bytes
  have hr := B.returns
  have hts := atoms_spec (ws := Cond.codeWith y_L_agree b_L_agree 5 (some .int) [(0, 9, 12, 13), (0, 9, 16, 42), (0, 9, 20, 29)] :: wa) B.pre
  have hw : ∀ w ∈ wa, w.before _ s = true := fun w h => hts w (List.mem_cons_of_mem _ h)
  have hown : s.vm.findClass R_L = some m.cls := findClass_of_methodNamed B.named
  have hlocks := B.notSynchronized
  have htab : c.exceptionTable.toList = [⟨0, 9, 12, 13⟩, ⟨0, 9, 16, 42⟩, ⟨0, 9, 20, 29⟩] := vx_table (x := y_L_agree) B (hts _ List.mem_cons_self)
  subst hsz
  have hD := hD0.self (sz := s.heap.size)
  generalize hAe : va_A (wX A cc g0) s.heap.size = AA at hD hZ ⊢
  have hA : ∀ q : Nat, s.heap.size ≤ q → AA q := fun q h => by rw [← hAe]; exact Or.inr h
  have hS : va_S AA s.heap s.heap [] := va_S.rf
  have hl := lv_entry ([.ref (A 0), .int a0, .int a1, .ref (A 10)]) (n := 5) (Nat.le_of_ble_eq_true rfl)
  rw [lg_entry_eq]
  generalize (lg_sl ([.ref (A 0), .int a0, .int a1, .ref (A 10)]) ++ List.replicate (5 - (lg_sl ([.ref (A 0), .int a0, .int a1, .ref (A 10)])).length) Slot.unset).toArray = ls at hl ⊢
  have hl : lv_has ls 5 [(0, .ref (A 0)), (1, .int a0), (2, .int a1), (3, .ref (A 10))] := hl
  unfold f_L_agree at hF
  obtain ⟨x1, e1, hF⟩ := Option.bind_eq_some_iff.mp hF
  refine lv_aload_n hx hb d_L_agree_0 rfl (lv_at hl 3 rfl) ?_
  refine lv_iconst (v := 0) hx hb d_L_agree_1 (by decide) ?_
  refine lv_aload_n hx hb d_L_agree_2 rfl (lv_at hl 0 rfl) ?_
  refine lv_iload_n hx hb d_L_agree_3 rfl (lv_at hl 1 rfl) ?_
  refine lv_iload_n hx hb d_L_agree_4 rfl (lv_at hl 2 rfl) ?_
  have hPc := hP.sub (ws' := wK A cc g0.1) [0, 1, 2, 3, 4, 5, 6, 7, 8, 9] rfl
  have hDc := hD.sub (ws' := wK A cc g0.1) [0, 1, 2, 3, 4, 5, 6, 7, 8, 9] (by decide) rfl
  have hKc := hK.sub (tys' := kK cc) [0, 1, 2, 3, 4, 5, 6] rfl
  have hFc := va_free (wc := wK A cc g0.1) hD hS hA [0, 1, 2, 3, 4, 5, 6, 7, 8, 9] rfl
  rcases x1 with ⟨E1, gE⟩ | ⟨r1, g1⟩
  · refine vx_calll (vx_runV (As := [.int a0, .int a1]) (rest := [.int 0, .ref (A 10)]) ⟨hx, hb, hml, hown, hts⟩ (k_K_agree_er l hl0 D A cc g0.1 a0 a1 _ _ _ e1) (cwV 2 hts (ga_V ww_498 ww_499 ww_500 ww_1 ww_501) rfl rfl rfl (by decide +kernel) ⟨by decide, by decide⟩) (pwx_pre (q0 := 0) (ci := 2) hPc hKc hDc hN hX hZ hS hFc rfl rfl) rfl rfl hl.1 rfl (lv_room (Nat.le_of_ble_eq_true rfl)) d_L_agree_5 ⟨Nat.le_of_ble_eq_true rfl, Nat.le_of_ble_eq_true rfl⟩) hS (fun q _ h => hFc q h) hFc (fun q _ h => hFc q h) (fun E ce q9 u t H1 locs ht hvm hpx hBX hz hk hS hce hcv hcl => ?_) (fun r9 u t H1 locs _ _ hp _ _ _ _ => hp.elim)
    obtain rfl : gE = u := hpx.symm
    obtain ⟨hEE, hB⟩ := hBX
    have hcl : s.vm.findClass E1 = some ce.cls := hEE ▸ hcl
    obtain ⟨hP1, hK1, hD1⟩ := hB
    rw [ht] at hP1
    obtain ⟨hP, hD⟩ := va_join (wr := [(A 10, .inl (cc 10, 1, .inr (.inl g0.2)))]) (w1 := wK A cc gE) hP hD [0, 1, 2, 3, 4, 5, 6, 7, 8, 9] [10] rfl rfl (by decide) (by decide) hk hFc hP1 hD1
    have hP := hP.sub (ws' := wX A cc (gE, g0.2)) [1, 2, 3, 4, 5, 6, 7, 8, 9, 10, 0] rfl
    have hD := hD.sub (ws' := wX A cc (gE, g0.2)) [1, 2, 3, 4, 5, 6, 7, 8, 9, 10, 0] (by decide) rfl
    by_cases h0 : E1 = "java/lang/IndexOutOfBoundsException"
    · have hF := (if_pos h0).symm.trans hF
      subst h0
      refine vx_catch (name := "java/lang/IndexOutOfBoundsException") hown [] ⟨0, 9, 12, 13⟩ [⟨0, 9, 16, 42⟩, ⟨0, 9, 20, 29⟩] htab (fun z hz => nomatch hz) (by decide) (by decide) (hw _ ww_219) (va_Nw.use rfl (hX _ xm_0)) hce hcv hcl ?_
      refine lv_astore hx hb d_L_agree_12 hl (by decide) (lv' := [(4, .ref q9), (0, .ref (A 0)), (1, .int a0), (2, .int a1), (3, .ref (A 10))]) rfl (fun ls hl => ?_)
      refine lv_iconst (v := 1) hx hb d_L_agree_14 (by decide) ?_
      obtain rfl := Option.some.inj hF
      exact W.iret hx hb hr (fun t ht hW => ⟨⟨_, _, rfl, rfl, bw_end hP hK hD ht hW⟩, hS.F ht⟩) hS.2.2 d_L_agree_15
    have hF := (if_neg h0).symm.trans hF
    by_cases h1 : E1 = "java/lang/IllegalStateException"
    · have hF := (if_pos h1).symm.trans hF
      subst h1
      refine vx_catch (name := "java/lang/IllegalStateException") hown [⟨0, 9, 12, 13⟩] ⟨0, 9, 16, 42⟩ [⟨0, 9, 20, 29⟩] htab (fun z hz => by
        simp only [List.mem_cons, List.not_mem_nil, or_false] at hz
        rcases hz with rfl
        · exact Or.inr ⟨by decide, "java/lang/IndexOutOfBoundsException", hw _ ww_219, hC _ xp_2⟩) (by decide) (by decide) (hw _ ww_388) (va_Nw.use rfl (hX _ xm_9)) hce hcv hcl ?_
      refine lv_astore hx hb d_L_agree_16 hl (by decide) (lv' := [(4, .ref q9), (0, .ref (A 0)), (1, .int a0), (2, .int a1), (3, .ref (A 10))]) rfl (fun ls hl => ?_)
      refine lv_iconst (v := 2) hx hb d_L_agree_18 (by decide) ?_
      obtain rfl := Option.some.inj hF
      exact W.iret hx hb hr (fun t ht hW => ⟨⟨_, _, rfl, rfl, bw_end hP hK hD ht hW⟩, hS.F ht⟩) hS.2.2 d_L_agree_19
    have hF := (if_neg h1).symm.trans hF
    by_cases h2 : E1 = "java/util/NoSuchElementException"
    · have hF := (if_pos h2).symm.trans hF
      subst h2
      refine vx_catch (name := "java/util/NoSuchElementException") hown [⟨0, 9, 12, 13⟩, ⟨0, 9, 16, 42⟩] ⟨0, 9, 20, 29⟩ [] htab (fun z hz => by
        simp only [List.mem_cons, List.not_mem_nil, or_false] at hz
        rcases hz with rfl | rfl
        · exact Or.inr ⟨by decide, "java/lang/IndexOutOfBoundsException", hw _ ww_219, hC _ xp_1⟩
        · exact Or.inr ⟨by decide, "java/lang/IllegalStateException", hw _ ww_388, hC _ xp_14⟩) (by decide) (by decide) (hw _ ww_341) (va_Nw.use rfl (hX _ xm_8)) hce hcv hcl ?_
      refine lv_astore hx hb d_L_agree_20 hl (by decide) (lv' := [(4, .ref q9), (0, .ref (A 0)), (1, .int a0), (2, .int a1), (3, .ref (A 10))]) rfl (fun ls hl => ?_)
      refine lv_iconst (v := 3) hx hb d_L_agree_22 (by decide) ?_
      obtain rfl := Option.some.inj hF
      exact W.iret hx hb hr (fun t ht hW => ⟨⟨_, _, rfl, rfl, bw_end hP hK hD ht hW⟩, hS.F ht⟩) hS.2.2 d_L_agree_23
    have hF := (if_neg h2).symm.trans hF
    cases hF
  refine va_calll (va_runV (As := [.int a0, .int a1]) (rest := [.int 0, .ref (A 10)]) ⟨hx, hb, hml, hown, hts⟩ (k_K_agree_ok l D A cc g0.1 a0 a1 _ (r1, g1) e1) (cwV 2 hts (ga_V ww_498 ww_499 ww_500 ww_1 ww_501) rfl rfl rfl (by decide +kernel) ⟨by decide, by decide⟩) (pw_pre (q0 := 0) (ci := 2) hPc hKc hDc hN rfl rfl) rfl rfl hl.1 rfl (lv_room (Nat.le_of_ble_eq_true rfl)) d_L_agree_5 ⟨Nat.zero_le _, Nat.zero_le _⟩) hS (fun q _ h => hFc q h) hFc (fun r9 u9 t H1 locs ht hvm hp hB hz1 hk1 hS => ?_)
  obtain ⟨rfl, rfl⟩ := Prod.mk.inj hp.symm
  obtain ⟨hP1, hK1, hD1⟩ := hB
  rw [ht] at hP1
  obtain ⟨hP, hD⟩ := va_join (wr := [(A 10, .inl (cc 10, 1, .inr (.inl g0.2)))]) (w1 := wK A cc g1) hP hD [0, 1, 2, 3, 4, 5, 6, 7, 8, 9] [10] rfl rfl (by decide) (by decide) hk1 hFc hP1 hD1
  have hP := hP.sub (ws' := wX A cc (g1, g0.2)) [1, 2, 3, 4, 5, 6, 7, 8, 9, 10, 0] rfl
  have hD := hD.sub (ws' := wX A cc (g1, g0.2)) [1, 2, 3, 4, 5, 6, 7, 8, 9, 10, 0] (by decide) rfl
  refine va_last hx hb hK hP hD hS 10 7 rfl rfl (show vp_in 0 1 by unfold vp_in; decide) d_L_agree_8 (fun H locs hP hD hS => ?_)
  have hP : va_P D vwC (wX A cc (g1, (vp_updL g0.2 (Int32.toNatClampNeg 0) r1))) H := hP
  have hD : va_D AA (wX A cc (g1, (vp_updL g0.2 (Int32.toNatClampNeg 0) r1))) := hD
  refine lv_goto hx hb d_L_agree_9 (tgt := 24) (by decide) ?_
  refine lv_iconst (v := 0) hx hb d_L_agree_24 (by decide) ?_
  obtain rfl := Option.some.inj hF
  refine W.widen (k := 1) (n := 6) (Nat.le_of_ble_eq_true rfl) (Nat.le_of_ble_eq_true rfl) ?_
  exact W.iret hx hb hr (fun t ht hW => ⟨⟨_, _, rfl, rfl, bw_end hP hK hD ht hW⟩, hS.F ht⟩) hS.2.2 d_L_agree_25
def f_L_written (g0 : sX) (a0 : Int32) (a1 : Int32) (a2 : Int32) : Option (Int32 × sX) := Option.bind (f_K_written g0.1 a0 a1 a2) (fun x1 => match x1 with | .error (E1, gE) => (if E1 = "java/lang/IllegalArgumentException" then some (1, (gE, g0.2)) else none) | .ok (r1, g1) => (some (0, (g1, (vp_updL g0.2 (Int32.toNatClampNeg 0) (Int32.toInt64 r1))))))
abbrev rm_L_written : Room := { frames := 8, cells := 1, slots := 6, locals := 134 }
set_option maxHeartbeats 4000000 in
set_option maxRecDepth 100000 in
theorem k_L_written (l : Launch) (hl0 : l.stackTraces = false) (D : va_G) (A : Nat → Nat) (cc : Nat → ClassId) (g0 : sX) (a0 : Int32) (a1 : Int32) (a2 : Int32) (sz : Nat) (res : Int32 × sX) (hF : f_L_written g0 a0 a1 a2 = some res) : Met l y_L_written (Cond.codeWith y_L_written b_L_written 6 (some .int) [(0, 12, 15, 15)] :: wa) rm_L_written (pwl D (wX A cc g0) (kX cc) [.ref (A 0), .int a0, .int a1, .int a2, .ref (A 10)] sz) (va_Qi (fun r u => (r, u) = res) (bw D (wX A cc) (kX cc) (va_A (wX A cc g0) sz)) (va_A (wX A cc g0) sz)) 1 6 (va_A (wX A cc g0) sz) := by
  refine va_MetW (cc := b_L_written) (maxL := 6) (ret := some .int) (hh := [(0, 12, 15, 15)]) (by decide) rfl ?_
  intro p e s m args below meth c s₁ B hml hv
  obtain ⟨⟨⟨rfl, hsz, hP, hK, hD0, hN⟩, hX, hZ⟩, hC⟩ := hv
  have hx := B.exec
  have hb := B.bytes
  have hr := B.returns
  have hts := atoms_spec (ws := Cond.codeWith y_L_written b_L_written 6 (some .int) [(0, 12, 15, 15)] :: wa) B.pre
  have hw : ∀ w ∈ wa, w.before _ s = true := fun w h => hts w (List.mem_cons_of_mem _ h)
  have hown : s.vm.findClass R_L = some m.cls := findClass_of_methodNamed B.named
  have hlocks := B.notSynchronized
  have htab : c.exceptionTable.toList = [⟨0, 12, 15, 15⟩] := vx_table (x := y_L_written) B (hts _ List.mem_cons_self)
  subst hsz
  have hD := hD0.self (sz := s.heap.size)
  generalize hAe : va_A (wX A cc g0) s.heap.size = AA at hD hZ ⊢
  have hA : ∀ q : Nat, s.heap.size ≤ q → AA q := fun q h => by rw [← hAe]; exact Or.inr h
  have hS : va_S AA s.heap s.heap [] := va_S.rf
  have hl := lv_entry ([.ref (A 0), .int a0, .int a1, .int a2, .ref (A 10)]) (n := 6) (Nat.le_of_ble_eq_true rfl)
  rw [lg_entry_eq]
  generalize (lg_sl ([.ref (A 0), .int a0, .int a1, .int a2, .ref (A 10)]) ++ List.replicate (6 - (lg_sl ([.ref (A 0), .int a0, .int a1, .int a2, .ref (A 10)])).length) Slot.unset).toArray = ls at hl ⊢
  have hl : lv_has ls 6 [(0, .ref (A 0)), (1, .int a0), (2, .int a1), (3, .int a2), (4, .ref (A 10))] := hl
  unfold f_L_written at hF
  obtain ⟨x1, e1, hF⟩ := Option.bind_eq_some_iff.mp hF
  refine lv_aload hx hb d_L_written_0 (lv_at hl 4 rfl) ?_
  refine lv_iconst (v := 0) hx hb d_L_written_2 (by decide) ?_
  refine lv_aload_n hx hb d_L_written_3 rfl (lv_at hl 0 rfl) ?_
  refine lv_iload_n hx hb d_L_written_4 rfl (lv_at hl 1 rfl) ?_
  refine lv_iload_n hx hb d_L_written_5 rfl (lv_at hl 2 rfl) ?_
  refine lv_iload_n hx hb d_L_written_6 rfl (lv_at hl 3 rfl) ?_
  have hPc := hP.sub (ws' := wK A cc g0.1) [0, 1, 2, 3, 4, 5, 6, 7, 8, 9] rfl
  have hDc := hD.sub (ws' := wK A cc g0.1) [0, 1, 2, 3, 4, 5, 6, 7, 8, 9] (by decide) rfl
  have hKc := hK.sub (tys' := kK cc) [0, 1, 2, 3, 4, 5, 6] rfl
  have hFc := va_free (wc := wK A cc g0.1) hD hS hA [0, 1, 2, 3, 4, 5, 6, 7, 8, 9] rfl
  rcases x1 with ⟨E1, gE⟩ | ⟨r1, g1⟩
  · refine vx_calli (vx_runV (As := [.int a0, .int a1, .int a2]) (rest := [.int 0, .ref (A 10)]) ⟨hx, hb, hml, hown, hts⟩ (k_K_written_er l hl0 D A cc g0.1 a0 a1 a2 _ _ _ e1) (cwV 3 hts (ga_V ww_506 ww_507 ww_508 ww_1 ww_509) rfl rfl rfl (by decide +kernel) ⟨by decide, by decide⟩) (pwx_pre (q0 := 0) (ci := 2) hPc hKc hDc hN hX hZ hS hFc rfl rfl) rfl rfl hl.1 rfl (lv_room (Nat.le_of_ble_eq_true rfl)) d_L_written_7 ⟨Nat.le_of_ble_eq_true rfl, Nat.le_of_ble_eq_true rfl⟩) hS (fun q _ h => hFc q h) hFc (fun q _ h => hFc q h) (fun E ce q9 u t H1 locs ht hvm hpx hBX hz hk hS hce hcv hcl => ?_) (fun r9 u t H1 locs _ _ hp _ _ _ _ => hp.elim)
    obtain rfl : gE = u := hpx.symm
    obtain ⟨hEE, hB⟩ := hBX
    have hcl : s.vm.findClass E1 = some ce.cls := hEE ▸ hcl
    obtain ⟨hP1, hK1, hD1⟩ := hB
    rw [ht] at hP1
    obtain ⟨hP, hD⟩ := va_join (wr := [(A 10, .inl (cc 10, 1, .inr (.inl g0.2)))]) (w1 := wK A cc gE) hP hD [0, 1, 2, 3, 4, 5, 6, 7, 8, 9] [10] rfl rfl (by decide) (by decide) hk hFc hP1 hD1
    have hP := hP.sub (ws' := wX A cc (gE, g0.2)) [1, 2, 3, 4, 5, 6, 7, 8, 9, 10, 0] rfl
    have hD := hD.sub (ws' := wX A cc (gE, g0.2)) [1, 2, 3, 4, 5, 6, 7, 8, 9, 10, 0] (by decide) rfl
    by_cases h0 : E1 = "java/lang/IllegalArgumentException"
    · have hF := (if_pos h0).symm.trans hF
      subst h0
      refine vx_catch (name := "java/lang/IllegalArgumentException") hown [] ⟨0, 12, 15, 15⟩ [] htab (fun z hz => nomatch hz) (by decide) (by decide) (hw _ ww_220) (va_Nw.use rfl (hX _ xm_7)) hce hcv hcl ?_
      refine lv_astore hx hb d_L_written_15 hl (by decide) (lv' := [(5, .ref q9), (0, .ref (A 0)), (1, .int a0), (2, .int a1), (3, .int a2), (4, .ref (A 10))]) rfl (fun ls hl => ?_)
      refine lv_iconst (v := 1) hx hb d_L_written_17 (by decide) ?_
      obtain rfl := Option.some.inj hF
      exact W.iret hx hb hr (fun t ht hW => ⟨⟨_, _, rfl, rfl, bw_end hP hK hD ht hW⟩, hS.F ht⟩) hS.2.2 d_L_written_18
    have hF := (if_neg h0).symm.trans hF
    cases hF
  refine va_calli (va_runV (As := [.int a0, .int a1, .int a2]) (rest := [.int 0, .ref (A 10)]) ⟨hx, hb, hml, hown, hts⟩ (k_K_written_ok l D A cc g0.1 a0 a1 a2 _ (r1, g1) e1) (cwV 3 hts (ga_V ww_506 ww_507 ww_508 ww_1 ww_509) rfl rfl rfl (by decide +kernel) ⟨by decide, by decide⟩) (pw_pre (q0 := 0) (ci := 2) hPc hKc hDc hN rfl rfl) rfl rfl hl.1 rfl (lv_room (Nat.le_of_ble_eq_true rfl)) d_L_written_7 ⟨Nat.zero_le _, Nat.zero_le _⟩) hS (fun q _ h => hFc q h) hFc (fun r9 u9 t H1 locs ht hvm hp hB hz1 hk1 hS => ?_)
  obtain ⟨rfl, rfl⟩ := Prod.mk.inj hp.symm
  obtain ⟨hP1, hK1, hD1⟩ := hB
  rw [ht] at hP1
  obtain ⟨hP, hD⟩ := va_join (wr := [(A 10, .inl (cc 10, 1, .inr (.inl g0.2)))]) (w1 := wK A cc g1) hP hD [0, 1, 2, 3, 4, 5, 6, 7, 8, 9] [10] rfl rfl (by decide) (by decide) hk1 hFc hP1 hD1
  have hP := hP.sub (ws' := wX A cc (g1, g0.2)) [1, 2, 3, 4, 5, 6, 7, 8, 9, 10, 0] rfl
  have hD := hD.sub (ws' := wX A cc (g1, g0.2)) [1, 2, 3, 4, 5, 6, 7, 8, 9, 10, 0] (by decide) rfl
  refine lv_i2l (v := Int32.toInt64 r1) hx hb d_L_written_10 rfl ?_
  refine va_last hx hb hK hP hD hS 10 7 rfl rfl (show vp_in 0 1 by unfold vp_in; decide) d_L_written_11 (fun H locs hP hD hS => ?_)
  have hP : va_P D vwC (wX A cc (g1, (vp_updL g0.2 (Int32.toNatClampNeg 0) (Int32.toInt64 r1)))) H := hP
  have hD : va_D AA (wX A cc (g1, (vp_updL g0.2 (Int32.toNatClampNeg 0) (Int32.toInt64 r1)))) := hD
  refine lv_goto hx hb d_L_written_12 (tgt := 19) (by decide) ?_
  refine lv_iconst (v := 0) hx hb d_L_written_19 (by decide) ?_
  obtain rfl := Option.some.inj hF
  refine W.widen (k := 1) (n := 6) (Nat.le_of_ble_eq_true rfl) (Nat.le_of_ble_eq_true rfl) ?_
  exact W.iret hx hb hr (fun t ht hW => ⟨⟨_, _, rfl, rfl, bw_end hP hK hD ht hW⟩, hS.F ht⟩) hS.2.2 d_L_written_20
def f_L_type (g0 : sX) (a0 : Int32) : Option (Int32 × sX) := Option.bind (f_K_type g0.1 a0) (fun x1 => match x1 with | .error (E1, gE) => (if E1 = "java/lang/IllegalArgumentException" then some (1, (gE, g0.2)) else if E1 = "java/lang/UnsupportedOperationException" then some (2, (gE, g0.2)) else none) | .ok (r1, g1) => (some (0, (g1, (vp_updL g0.2 (Int32.toNatClampNeg 0) (Int32.toInt64 r1))))))
abbrev rm_L_type : Room := { frames := 8, cells := 1, slots := 6, locals := 131 }
set_option maxHeartbeats 4000000 in
set_option maxRecDepth 100000 in
theorem k_L_type (l : Launch) (hl0 : l.stackTraces = false) (D : va_G) (A : Nat → Nat) (cc : Nat → ClassId) (g0 : sX) (a0 : Int32) (sz : Nat) (res : Int32 × sX) (hF : f_L_type g0 a0 = some res) : Met l y_L_type (Cond.codeWith y_L_type b_L_type 4 (some .int) [(0, 9, 12, 15), (0, 9, 15, 44)] :: wa) rm_L_type (pwl D (wX A cc g0) (kX cc) [.ref (A 0), .int a0, .ref (A 10)] sz) (va_Qi (fun r u => (r, u) = res) (bw D (wX A cc) (kX cc) (va_A (wX A cc g0) sz)) (va_A (wX A cc g0) sz)) 1 6 (va_A (wX A cc g0) sz) := by
  refine va_MetW (cc := b_L_type) (maxL := 4) (ret := some .int) (hh := [(0, 9, 12, 15), (0, 9, 15, 44)]) (by decide) rfl ?_
  intro p e s m args below meth c s₁ B hml hv
  obtain ⟨⟨⟨rfl, hsz, hP, hK, hD0, hN⟩, hX, hZ⟩, hC⟩ := hv
  have hx := B.exec
  have hb := B.bytes
  have hr := B.returns
  have hts := atoms_spec (ws := Cond.codeWith y_L_type b_L_type 4 (some .int) [(0, 9, 12, 15), (0, 9, 15, 44)] :: wa) B.pre
  have hw : ∀ w ∈ wa, w.before _ s = true := fun w h => hts w (List.mem_cons_of_mem _ h)
  have hown : s.vm.findClass R_L = some m.cls := findClass_of_methodNamed B.named
  have hlocks := B.notSynchronized
  have htab : c.exceptionTable.toList = [⟨0, 9, 12, 15⟩, ⟨0, 9, 15, 44⟩] := vx_table (x := y_L_type) B (hts _ List.mem_cons_self)
  subst hsz
  have hD := hD0.self (sz := s.heap.size)
  generalize hAe : va_A (wX A cc g0) s.heap.size = AA at hD hZ ⊢
  have hA : ∀ q : Nat, s.heap.size ≤ q → AA q := fun q h => by rw [← hAe]; exact Or.inr h
  have hS : va_S AA s.heap s.heap [] := va_S.rf
  have hl := lv_entry ([.ref (A 0), .int a0, .ref (A 10)]) (n := 4) (Nat.le_of_ble_eq_true rfl)
  rw [lg_entry_eq]
  generalize (lg_sl ([.ref (A 0), .int a0, .ref (A 10)]) ++ List.replicate (4 - (lg_sl ([.ref (A 0), .int a0, .ref (A 10)])).length) Slot.unset).toArray = ls at hl ⊢
  have hl : lv_has ls 4 [(0, .ref (A 0)), (1, .int a0), (2, .ref (A 10))] := hl
  unfold f_L_type at hF
  obtain ⟨x1, e1, hF⟩ := Option.bind_eq_some_iff.mp hF
  refine lv_aload_n hx hb d_L_type_0 rfl (lv_at hl 2 rfl) ?_
  refine lv_iconst (v := 0) hx hb d_L_type_1 (by decide) ?_
  refine lv_aload_n hx hb d_L_type_2 rfl (lv_at hl 0 rfl) ?_
  refine lv_iload_n hx hb d_L_type_3 rfl (lv_at hl 1 rfl) ?_
  have hPc := hP.sub (ws' := wK A cc g0.1) [0, 1, 2, 3, 4, 5, 6, 7, 8, 9] rfl
  have hDc := hD.sub (ws' := wK A cc g0.1) [0, 1, 2, 3, 4, 5, 6, 7, 8, 9] (by decide) rfl
  have hKc := hK.sub (tys' := kK cc) [0, 1, 2, 3, 4, 5, 6] rfl
  have hFc := va_free (wc := wK A cc g0.1) hD hS hA [0, 1, 2, 3, 4, 5, 6, 7, 8, 9] rfl
  rcases x1 with ⟨E1, gE⟩ | ⟨r1, g1⟩
  · refine vx_calli (vx_runV (As := [.int a0]) (rest := [.int 0, .ref (A 10)]) ⟨hx, hb, hml, hown, hts⟩ (k_K_type_er l hl0 D A cc g0.1 a0 _ _ _ e1) (cwV 1 hts (ga_V ww_515 ww_516 ww_517 ww_1 ww_518) rfl rfl rfl (by decide +kernel) ⟨by decide, by decide⟩) (pwx_pre (q0 := 0) (ci := 2) hPc hKc hDc hN hX hZ hS hFc rfl rfl) rfl rfl hl.1 rfl (lv_room (Nat.le_of_ble_eq_true rfl)) d_L_type_4 ⟨Nat.le_of_ble_eq_true rfl, Nat.le_of_ble_eq_true rfl⟩) hS (fun q _ h => hFc q h) hFc (fun q _ h => hFc q h) (fun E ce q9 u t H1 locs ht hvm hpx hBX hz hk hS hce hcv hcl => ?_) (fun r9 u t H1 locs _ _ hp _ _ _ _ => hp.elim)
    obtain rfl : gE = u := hpx.symm
    obtain ⟨hEE, hB⟩ := hBX
    have hcl : s.vm.findClass E1 = some ce.cls := hEE ▸ hcl
    obtain ⟨hP1, hK1, hD1⟩ := hB
    rw [ht] at hP1
    obtain ⟨hP, hD⟩ := va_join (wr := [(A 10, .inl (cc 10, 1, .inr (.inl g0.2)))]) (w1 := wK A cc gE) hP hD [0, 1, 2, 3, 4, 5, 6, 7, 8, 9] [10] rfl rfl (by decide) (by decide) hk hFc hP1 hD1
    have hP := hP.sub (ws' := wX A cc (gE, g0.2)) [1, 2, 3, 4, 5, 6, 7, 8, 9, 10, 0] rfl
    have hD := hD.sub (ws' := wX A cc (gE, g0.2)) [1, 2, 3, 4, 5, 6, 7, 8, 9, 10, 0] (by decide) rfl
    by_cases h0 : E1 = "java/lang/IllegalArgumentException"
    · have hF := (if_pos h0).symm.trans hF
      subst h0
      refine vx_catch (name := "java/lang/IllegalArgumentException") hown [] ⟨0, 9, 12, 15⟩ [⟨0, 9, 15, 44⟩] htab (fun z hz => nomatch hz) (by decide) (by decide) (hw _ ww_220) (va_Nw.use rfl (hX _ xm_7)) hce hcv hcl ?_
      refine lv_astore_n hx hb d_L_type_12 rfl hl (by decide) (lv' := [(3, .ref q9), (0, .ref (A 0)), (1, .int a0), (2, .ref (A 10))]) rfl (fun ls hl => ?_)
      refine lv_iconst (v := 1) hx hb d_L_type_13 (by decide) ?_
      obtain rfl := Option.some.inj hF
      exact W.iret hx hb hr (fun t ht hW => ⟨⟨_, _, rfl, rfl, bw_end hP hK hD ht hW⟩, hS.F ht⟩) hS.2.2 d_L_type_14
    have hF := (if_neg h0).symm.trans hF
    by_cases h1 : E1 = "java/lang/UnsupportedOperationException"
    · have hF := (if_pos h1).symm.trans hF
      subst h1
      refine vx_catch (name := "java/lang/UnsupportedOperationException") hown [⟨0, 9, 12, 15⟩] ⟨0, 9, 15, 44⟩ [] htab (fun z hz => by
        simp only [List.mem_cons, List.not_mem_nil, or_false] at hz
        rcases hz with rfl
        · exact Or.inr ⟨by decide, "java/lang/IllegalArgumentException", hw _ ww_220, hC _ xp_7⟩) (by decide) (by decide) (hw _ ww_389) (va_Nw.use rfl (hX _ xm_10)) hce hcv hcl ?_
      refine lv_astore_n hx hb d_L_type_15 rfl hl (by decide) (lv' := [(3, .ref q9), (0, .ref (A 0)), (1, .int a0), (2, .ref (A 10))]) rfl (fun ls hl => ?_)
      refine lv_iconst (v := 2) hx hb d_L_type_16 (by decide) ?_
      obtain rfl := Option.some.inj hF
      exact W.iret hx hb hr (fun t ht hW => ⟨⟨_, _, rfl, rfl, bw_end hP hK hD ht hW⟩, hS.F ht⟩) hS.2.2 d_L_type_17
    have hF := (if_neg h1).symm.trans hF
    cases hF
  refine va_calli (va_runV (As := [.int a0]) (rest := [.int 0, .ref (A 10)]) ⟨hx, hb, hml, hown, hts⟩ (k_K_type_ok l D A cc g0.1 a0 _ (r1, g1) e1) (cwV 1 hts (ga_V ww_515 ww_516 ww_517 ww_1 ww_518) rfl rfl rfl (by decide +kernel) ⟨by decide, by decide⟩) (pw_pre (q0 := 0) (ci := 2) hPc hKc hDc hN rfl rfl) rfl rfl hl.1 rfl (lv_room (Nat.le_of_ble_eq_true rfl)) d_L_type_4 ⟨Nat.zero_le _, Nat.zero_le _⟩) hS (fun q _ h => hFc q h) hFc (fun r9 u9 t H1 locs ht hvm hp hB hz1 hk1 hS => ?_)
  obtain ⟨rfl, rfl⟩ := Prod.mk.inj hp.symm
  obtain ⟨hP1, hK1, hD1⟩ := hB
  rw [ht] at hP1
  obtain ⟨hP, hD⟩ := va_join (wr := [(A 10, .inl (cc 10, 1, .inr (.inl g0.2)))]) (w1 := wK A cc g1) hP hD [0, 1, 2, 3, 4, 5, 6, 7, 8, 9] [10] rfl rfl (by decide) (by decide) hk1 hFc hP1 hD1
  have hP := hP.sub (ws' := wX A cc (g1, g0.2)) [1, 2, 3, 4, 5, 6, 7, 8, 9, 10, 0] rfl
  have hD := hD.sub (ws' := wX A cc (g1, g0.2)) [1, 2, 3, 4, 5, 6, 7, 8, 9, 10, 0] (by decide) rfl
  refine lv_i2l (v := Int32.toInt64 r1) hx hb d_L_type_7 rfl ?_
  refine va_last hx hb hK hP hD hS 10 7 rfl rfl (show vp_in 0 1 by unfold vp_in; decide) d_L_type_8 (fun H locs hP hD hS => ?_)
  have hP : va_P D vwC (wX A cc (g1, (vp_updL g0.2 (Int32.toNatClampNeg 0) (Int32.toInt64 r1)))) H := hP
  have hD : va_D AA (wX A cc (g1, (vp_updL g0.2 (Int32.toNatClampNeg 0) (Int32.toInt64 r1)))) := hD
  refine lv_goto hx hb d_L_type_9 (tgt := 18) (by decide) ?_
  refine lv_iconst (v := 0) hx hb d_L_type_18 (by decide) ?_
  obtain rfl := Option.some.inj hF
  refine W.widen (k := 1) (n := 6) (Nat.le_of_ble_eq_true rfl) (Nat.le_of_ble_eq_true rfl) ?_
  exact W.iret hx hb hr (fun t ht hW => ⟨⟨_, _, rfl, rfl, bw_end hP hK hD ht hW⟩, hS.F ht⟩) hS.2.2 d_L_type_19
