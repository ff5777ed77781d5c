/-! The cells of the class and of the reference, and what a state of them is. -/
def T_I : u_T := fun k => match k with
  | 0 => ("EvenCurveKeys$Items", "evens", "[J", true)
  | 1 => ("EvenCurveKeys$Items", "messages", "[J", true)
  | 2 => ("EvenCurveKeys$Items", "rxs", "[I", true)
  | 3 => ("EvenCurveKeys$Items", "ss", "[I", true)
  | _ => ("EvenCurveKeys$Items", "count", "I", false)
def ft_I : Nat → FieldType := fun k => match k with
  | 0 => .array .long
  | 1 => .array .long
  | 2 => .array .int
  | 3 => .array .int
  | _ => .int
theorem fn_I : ∀ a, a < 5 → ∀ b, b < 5 → a ≠ b → (T_I a).2.1 ≠ (T_I b).2.1 := by decide +kernel
theorem ft_I_ok : ∀ k, k < 5 → parseFieldDescriptor (T_I k).2.2.1 = some (ft_I k) := by decide +kernel
theorem in_I0 : ∀ w ∈ u_ws R_I T_I 5, w ∈ lw_tbl := by decide +kernel
theorem in_I1 : ∀ w ∈ u_ws R_I T_I 5, goodWord w = true := by decide +kernel
theorem in_I {c0 : Cond} : ∀ w ∈ u_ws R_I T_I 5, w ∈ c0 :: wa := fun w h => List.mem_cons_of_mem _ (List.mem_filter.mpr ⟨in_I0 w h, in_I1 w h⟩)
def T_T : u_T := fun k => match k with
  | 0 => ("EvenCurveKeys$Typed", "bytes", "[I", true)
  | _ => ("EvenCurveKeys$Typed", "count", "I", false)
def ft_T : Nat → FieldType := fun k => match k with
  | 0 => .array .int
  | _ => .int
theorem fn_T : ∀ a, a < 2 → ∀ b, b < 2 → a ≠ b → (T_T a).2.1 ≠ (T_T b).2.1 := by decide +kernel
theorem ft_T_ok : ∀ k, k < 2 → parseFieldDescriptor (T_T k).2.2.1 = some (ft_T k) := by decide +kernel
theorem in_T0 : ∀ w ∈ u_ws R_T T_T 2, w ∈ lw_tbl := by decide +kernel
theorem in_T1 : ∀ w ∈ u_ws R_T T_T 2, goodWord w = true := by decide +kernel
theorem in_T {c0 : Cond} : ∀ w ∈ u_ws R_T T_T 2, w ∈ c0 :: wa := fun w h => List.mem_cons_of_mem _ (List.mem_filter.mpr ⟨in_T0 w h, in_T1 w h⟩)
def T_K : u_T := fun k => match k with
  | 0 => ("EvenCurveKeys", "points", "[J", true)
  | 1 => ("EvenCurveKeys", "secrets", "[J", true)
  | 2 => ("EvenCurveKeys", "items", "LEvenCurveKeys$Items;", true)
  | 3 => ("EvenCurveKeys", "typed", "LEvenCurveKeys$Typed;", true)
  | _ => ("EvenCurveKeys", "lastMark", "I", false)
def ft_K : Nat → FieldType := fun k => match k with
  | 0 => .array .long
  | 1 => .array .long
  | 2 => .object "EvenCurveKeys$Items"
  | 3 => .object "EvenCurveKeys$Typed"
  | _ => .int
theorem fn_K : ∀ a, a < 5 → ∀ b, b < 5 → a ≠ b → (T_K a).2.1 ≠ (T_K b).2.1 := by decide +kernel
theorem ft_K_ok : ∀ k, k < 5 → parseFieldDescriptor (T_K k).2.2.1 = some (ft_K k) := by decide +kernel
theorem in_K0 : ∀ w ∈ u_ws R_K T_K 5, w ∈ lw_tbl := by decide +kernel
theorem in_K1 : ∀ w ∈ u_ws R_K T_K 5, goodWord w = true := by decide +kernel
theorem in_K {c0 : Cond} : ∀ w ∈ u_ws R_K T_K 5, w ∈ c0 :: wa := fun w h => List.mem_cons_of_mem _ (List.mem_filter.mpr ⟨in_K0 w h, in_K1 w h⟩)
def T_M : u_T := fun k => match k with
  | 0 => ("EvenCurveKeysModel", "thrown", "I", false)
  | 1 => ("EvenCurveKeysModel", "points", "[J", true)
  | 2 => ("EvenCurveKeysModel", "secrets", "[J", true)
  | 3 => ("EvenCurveKeysModel", "lastMark", "I", false)
  | 4 => ("EvenCurveKeysModel", "items", "I", false)
  | 5 => ("EvenCurveKeysModel", "itemX", "[J", true)
  | 6 => ("EvenCurveKeysModel", "itemMessage", "[J", true)
  | 7 => ("EvenCurveKeysModel", "itemRx", "[I", true)
  | 8 => ("EvenCurveKeysModel", "itemS", "[I", true)
  | 9 => ("EvenCurveKeysModel", "typed", "I", false)
  | 10 => ("EvenCurveKeysModel", "bytes", "[I", true)
  | 11 => ("EvenCurveKeysModel", "formSize", "I", false)
  | _ => ("EvenCurveKeysModel", "form", "[I", true)
def ft_M : Nat → FieldType := fun k => match k with
  | 0 => .int
  | 1 => .array .long
  | 2 => .array .long
  | 3 => .int
  | 4 => .int
  | 5 => .array .long
  | 6 => .array .long
  | 7 => .array .int
  | 8 => .array .int
  | 9 => .int
  | 10 => .array .int
  | 11 => .int
  | _ => .array .int
theorem fn_M : ∀ a, a < 13 → ∀ b, b < 13 → a ≠ b → (T_M a).2.1 ≠ (T_M b).2.1 := by decide +kernel
theorem ft_M_ok : ∀ k, k < 13 → parseFieldDescriptor (T_M k).2.2.1 = some (ft_M k) := by decide +kernel
theorem in_M0 : ∀ w ∈ u_ws R_M T_M 13, w ∈ lw_tbl := by decide +kernel
theorem in_M1 : ∀ w ∈ u_ws R_M T_M 13, goodWord w = true := by decide +kernel
theorem in_M {c0 : Cond} : ∀ w ∈ u_ws R_M T_M 13, w ∈ c0 :: wa := fun w h => List.mem_cons_of_mem _ (List.mem_filter.mpr ⟨in_M0 w h, in_M1 w h⟩)
abbrev vwC : List vw_C := [(R_I, T_I, 5), (R_T, T_T, 2), (R_K, T_K, 5), (R_M, T_M, 13)]
theorem wp_0 : Cond.selects "EvenCurveKeys$Typed" ({ cls := "EvenCurveKeys$Typed", name := "sizeAt", desc := "(I)I" } : Jvm.MethodName) ({ cls := "EvenCurveKeys$Typed", name := "sizeAt", desc := "(I)I" } : Jvm.MethodName) ∈ wa := List.mem_filter.mpr ⟨List.mem_append_left _ (List.mem_of_getElem? (i := 0) (by decide +kernel)), rfl⟩
theorem wp_1 : Cond.selects "EvenCurveKeys$Typed" ({ cls := "EvenCurveKeys$Typed", name := "numberAt", desc := "(I)I" } : Jvm.MethodName) ({ cls := "EvenCurveKeys$Typed", name := "numberAt", desc := "(I)I" } : Jvm.MethodName) ∈ wa := List.mem_filter.mpr ⟨List.mem_append_left _ (List.mem_of_getElem? (i := 1) (by decide +kernel)), rfl⟩
theorem wp_2 : Cond.selects "EvenCurveKeys$Typed" ({ cls := "EvenCurveKeys$Typed", name := "areFormOf", desc := "(II)Z" } : Jvm.MethodName) ({ cls := "EvenCurveKeys$Typed", name := "areFormOf", desc := "(II)Z" } : Jvm.MethodName) ∈ wa := List.mem_filter.mpr ⟨List.mem_append_left _ (List.mem_of_getElem? (i := 2) (by decide +kernel)), rfl⟩
theorem wp_4 : Cond.selects "EvenCurveKeys" ({ cls := "EvenCurveKeys", name := "fill", desc := "(IJJ)J" } : Jvm.MethodName) ({ cls := "EvenCurveKeys", name := "fill", desc := "(IJJ)J" } : Jvm.MethodName) ∈ wa := List.mem_filter.mpr ⟨List.mem_append_left _ (List.mem_of_getElem? (i := 4) (by decide +kernel)), rfl⟩
theorem wp_5 : Cond.selects "EvenCurveKeys" ({ cls := "EvenCurveKeys", name := "pointOf", desc := "(I)J" } : Jvm.MethodName) ({ cls := "EvenCurveKeys", name := "pointOf", desc := "(I)J" } : Jvm.MethodName) ∈ wa := List.mem_filter.mpr ⟨List.mem_append_left _ (List.mem_of_getElem? (i := 5) (by decide +kernel)), rfl⟩
theorem wp_6 : Cond.selects "EvenCurveKeys" ({ cls := "EvenCurveKeys", name := "secretOf", desc := "(I)J" } : Jvm.MethodName) ({ cls := "EvenCurveKeys", name := "secretOf", desc := "(I)J" } : Jvm.MethodName) ∈ wa := List.mem_filter.mpr ⟨List.mem_append_left _ (List.mem_of_getElem? (i := 6) (by decide +kernel)), rfl⟩
theorem wp_7 : Cond.selects "EvenCurveKeysModel" ({ cls := "EvenCurveKeysModel", name := "lay", desc := "(IJ)V" } : Jvm.MethodName) ({ cls := "EvenCurveKeysModel", name := "lay", desc := "(IJ)V" } : Jvm.MethodName) ∈ wa := List.mem_filter.mpr ⟨List.mem_append_left _ (List.mem_of_getElem? (i := 7) (by decide +kernel)), rfl⟩
theorem wp_8 : Cond.selects "EvenCurveKeysModel" ({ cls := "EvenCurveKeysModel", name := "full", desc := "(I)Z" } : Jvm.MethodName) ({ cls := "EvenCurveKeysModel", name := "full", desc := "(I)Z" } : Jvm.MethodName) ∈ wa := List.mem_filter.mpr ⟨List.mem_append_left _ (List.mem_of_getElem? (i := 8) (by decide +kernel)), rfl⟩
theorem wp_9 : Cond.selects "EvenCurveKeysModel" ({ cls := "EvenCurveKeysModel", name := "noSecret", desc := "(I)I" } : Jvm.MethodName) ({ cls := "EvenCurveKeysModel", name := "noSecret", desc := "(I)I" } : Jvm.MethodName) ∈ wa := List.mem_filter.mpr ⟨List.mem_append_left _ (List.mem_of_getElem? (i := 9) (by decide +kernel)), rfl⟩
theorem wp_10 : Cond.selects "EvenCurveKeysModel" ({ cls := "EvenCurveKeysModel", name := "noPoint", desc := "(I)I" } : Jvm.MethodName) ({ cls := "EvenCurveKeysModel", name := "noPoint", desc := "(I)I" } : Jvm.MethodName) ∈ wa := List.mem_filter.mpr ⟨List.mem_append_left _ (List.mem_of_getElem? (i := 10) (by decide +kernel)), rfl⟩
theorem wp_11 : Cond.selects "EvenCurveKeysModel" ({ cls := "EvenCurveKeysModel", name := "layForm", desc := "(II)V" } : Jvm.MethodName) ({ cls := "EvenCurveKeysModel", name := "layForm", desc := "(II)V" } : Jvm.MethodName) ∈ wa := List.mem_filter.mpr ⟨List.mem_append_left _ (List.mem_of_getElem? (i := 11) (by decide +kernel)), rfl⟩
theorem wp_12 : Cond.selects "EvenCurveKeysModel" ({ cls := "EvenCurveKeysModel", name := "layByte", desc := "(I)V" } : Jvm.MethodName) ({ cls := "EvenCurveKeysModel", name := "layByte", desc := "(I)V" } : Jvm.MethodName) ∈ wa := List.mem_filter.mpr ⟨List.mem_append_left _ (List.mem_of_getElem? (i := 12) (by decide +kernel)), rfl⟩
theorem wp_13 : Cond.selects "EvenCurveKeysModel" ({ cls := "EvenCurveKeysModel", name := "layNumber", desc := "(I)V" } : Jvm.MethodName) ({ cls := "EvenCurveKeysModel", name := "layNumber", desc := "(I)V" } : Jvm.MethodName) ∈ wa := List.mem_filter.mpr ⟨List.mem_append_left _ (List.mem_of_getElem? (i := 13) (by decide +kernel)), rfl⟩
theorem wp_14 : Cond.selects "EvenCurveKeysModel" ({ cls := "EvenCurveKeysModel", name := "numberAt", desc := "(I)I" } : Jvm.MethodName) ({ cls := "EvenCurveKeysModel", name := "numberAt", desc := "(I)I" } : Jvm.MethodName) ∈ wa := List.mem_filter.mpr ⟨List.mem_append_left _ (List.mem_of_getElem? (i := 14) (by decide +kernel)), rfl⟩
theorem wp_15 : Cond.selects "EvenCurveKeysModel" ({ cls := "EvenCurveKeysModel", name := "byteAt", desc := "(I)I" } : Jvm.MethodName) ({ cls := "EvenCurveKeysModel", name := "byteAt", desc := "(I)I" } : Jvm.MethodName) ∈ wa := List.mem_filter.mpr ⟨List.mem_append_left _ (List.mem_of_getElem? (i := 15) (by decide +kernel)), rfl⟩
theorem wp_16 : Cond.selects "EvenCurveKeysModel" ({ cls := "EvenCurveKeysModel", name := "same", desc := "(II)Z" } : Jvm.MethodName) ({ cls := "EvenCurveKeysModel", name := "same", desc := "(II)Z" } : Jvm.MethodName) ∈ wa := List.mem_filter.mpr ⟨List.mem_append_left _ (List.mem_of_getElem? (i := 16) (by decide +kernel)), rfl⟩
abbrev sM : Type := Int32 × (Nat → Int64) × (Nat → Int64) × Int32 × Int32 × (Nat → Int64) × (Nat → Int64) × (Nat → Int32) × (Nat → Int32) × Int32 × (Nat → Int32) × Int32 × (Nat → Int32)
abbrev wM (A : Nat → Nat) (cc : Nat → ClassId) (u : sM) : va_W := [(A 0, .inr (3, [.int u.1, .ref (A 1), .ref (A 2), .int u.2.2.2.1, .int u.2.2.2.2.1, .ref (A 3), .ref (A 4), .ref (A 5), .ref (A 6), .int u.2.2.2.2.2.2.2.2.2.1, .ref (A 7), .int u.2.2.2.2.2.2.2.2.2.2.2.1, .ref (A 8)])), (A 1, .inl (cc 1, 6, .inr (.inl u.2.1))), (A 2, .inl (cc 2, 6, .inr (.inl u.2.2.1))), (A 3, .inl (cc 3, 8, .inr (.inl u.2.2.2.2.2.1))), (A 4, .inl (cc 4, 8, .inr (.inl u.2.2.2.2.2.2.1))), (A 5, .inl (cc 5, 8, .inl u.2.2.2.2.2.2.2.1)), (A 6, .inl (cc 6, 8, .inl u.2.2.2.2.2.2.2.2.1)), (A 7, .inl (cc 7, 20, .inl u.2.2.2.2.2.2.2.2.2.2.1)), (A 8, .inl (cc 8, 16, .inl u.2.2.2.2.2.2.2.2.2.2.2.2))]
abbrev kM (cc : Nat → ClassId) : List (ClassId × FieldType) := [(cc 1, .long), (cc 2, .long), (cc 3, .long), (cc 4, .long), (cc 5, .int), (cc 6, .int), (cc 7, .int), (cc 8, .int)]
abbrev sK : Type := (Nat → Int64) × (Nat → Int64) × Int32 × (Nat → Int64) × (Nat → Int64) × (Nat → Int32) × (Nat → Int32) × Int32 × (Nat → Int32) × Int32
abbrev wK (A : Nat → Nat) (cc : Nat → ClassId) (u : sK) : va_W := [(A 0, .inr (2, [.ref (A 1), .ref (A 2), .ref (A 3), .ref (A 8), .int u.2.2.1])), (A 1, .inl (cc 1, 6, .inr (.inl u.1))), (A 2, .inl (cc 2, 6, .inr (.inl u.2.1))), (A 3, .inr (0, [.ref (A 4), .ref (A 5), .ref (A 6), .ref (A 7), .int u.2.2.2.2.2.2.2.1])), (A 4, .inl (cc 4, 8, .inr (.inl u.2.2.2.1))), (A 5, .inl (cc 5, 8, .inr (.inl u.2.2.2.2.1))), (A 6, .inl (cc 6, 8, .inl u.2.2.2.2.2.1)), (A 7, .inl (cc 7, 8, .inl u.2.2.2.2.2.2.1)), (A 8, .inr (1, [.ref (A 9), .int u.2.2.2.2.2.2.2.2.2])), (A 9, .inl (cc 9, 20, .inl u.2.2.2.2.2.2.2.2.1))]
abbrev kK (cc : Nat → ClassId) : List (ClassId × FieldType) := [(cc 1, .long), (cc 2, .long), (cc 4, .long), (cc 5, .long), (cc 6, .int), (cc 7, .int), (cc 9, .int)]
theorem ga_V {c0 c1 : Cond} {own C : String} {idx : Nat} {y : MethodName} (h1 : Cond.methodLink own idx y ∈ wa) (h2 : Cond.instanceMethod y ∈ wa) (h3 : Cond.selects C y y ∈ wa) (h5 : Cond.initialized C ∈ wa) (h4 : c1 ∈ wa) : GoodIn (c0 :: wa) (wsV own idx C y (c1 :: wa)) := by
  have hg : ∀ w, w ∈ wa → w ∈ c0 :: wa ∧ ((w.onTables && w.keeps) = true ∨ ∃ ty, w = .arrayClass ty) := fun w h => ⟨List.mem_cons_of_mem _ h, good_of_word (wa_good h)⟩
  intro w hw
  unfold wsV at hw
  simp only [List.cons_append, List.nil_append, List.mem_cons] at hw
  rcases hw with h | h | h | h | h | h
  · rw [h]; exact hg _ h1
  · rw [h]; exact hg _ h2
  · rw [h]; exact hg _ h3
  · rw [h]; exact hg _ h5
  · rw [h]; exact hg _ h4
  · exact hg _ h
/-- a start with a world of cells -/
def pw (D : va_G) (W : va_W) (K : List (ClassId × FieldType)) (As : List Value) (sz : Nat) : Array Value → State → Prop := fun v U => v = As.toArray ∧ U.heap.size = sz ∧ va_P D vwC W U.heap ∧ va_K D vwC K U ∧ va_D (fun _ => True) W ∧ nw U
/-- the world behind a method -/
def bw {S : Type} (D : va_G) (Wf : S → va_W) (K : List (ClassId × FieldType)) (AA : Nat → Prop) : S → State → Prop := fun u t => va_P D vwC (Wf u) t.heap ∧ va_K D vwC K t ∧ va_D AA (Wf u)
theorem pw_blind {D : va_G} {W : va_W} {K : List (ClassId × FieldType)} {As : List Value} {sz : Nat} : FrameBlind (pw D W K As sz) := fun a U g mk q => by
  obtain ⟨q0, q1, qP, qK, qD, qN⟩ := q
  exact ⟨q0, q1, qP, va_K.moved (u := U) (U := U.calling g mk a) (Vm.Alike.refl U.vm) qK, qD, nw_vm (u := U) (U := U.calling g mk a) rfl qN⟩
theorem pw_pre {s : State} {H : Heap} {D : va_G} {W : va_W} {K : List (ClassId × FieldType)} {AA : Nat → Prop} {As : List Value} {b : Nat} (hP : va_P D vwC W H) (hK : va_K D vwC K s) (hD : va_D AA W) (hN : nw s) {q0 ci : Nat} {q : vw_C} {fs : List Value} (hc : vwC[ci]? = some q) (he : W[q0]? = some (b, .inr (ci, fs))) :
    PreV s H q.1 b (pw D W K (.ref b :: As) H.size) As :=
  ⟨pw_blind, va_recv hK hP hc he, fun U hU hW => ⟨rfl, by rw [hU], by rw [hU]; exact hP, va_K.moved hW.alike hK, hD.weaken (fun _ _ _ _ => trivial), nw_warm hW hN⟩⟩
theorem bw_back {S : Type} {D : va_G} {Wf : S → va_W} {K : List (ClassId × FieldType)} {AC AA : Nat → Prop} {u : S} {t : State} {H : Heap} (hB : bw D Wf K AC u t) (ht : t.heap = H) (hF : ∀ q, AC q → AA q) : va_P D vwC (Wf u) H ∧ va_D AA (Wf u) :=
  ⟨by rw [← ht]; exact hB.1, hB.2.2.weaken (fun _ q _ h => hF q.1 h)⟩
theorem bw_end {S : Type} {D : va_G} {Wf : S → va_W} {K : List (ClassId × FieldType)} {AA : Nat → Prop} {u : S} {s t : State} {H : Heap} (hP : va_P D vwC (Wf u) H) (hK : va_K D vwC K s) (hD : va_D AA (Wf u)) (ht : t.heap = H) (hW : s.WarmedH t.vm) : bw D Wf K AA u t := ⟨by rw [ht]; exact hP, va_K.moved hW.alike hK, hD⟩
