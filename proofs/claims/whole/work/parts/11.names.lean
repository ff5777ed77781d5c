/-! Names, by program out of the task's papers. -/
abbrev R_C : String := "EvenCurveKeys$Curve"
abbrev R_F : String := "EvenCurveKeys$Field"
abbrev R_O : String := "EvenCurveKeys$Form"
abbrev R_I : String := "EvenCurveKeys$Items"
abbrev R_S : String := "EvenCurveKeys$Scalars"
abbrev R_T : String := "EvenCurveKeys$Typed"
abbrev R_K : String := "EvenCurveKeys"
abbrev R_M : String := "EvenCurveKeysModel"
abbrev R_L : String := "EvenCurveKeysLaw"
abbrev y_K_init : MethodName := { cls := R_K, name := "<init>", desc := "()V" }
abbrev b_K_init : ByteArray := prog_1_method_1_code
abbrev y_I_init : MethodName := { cls := R_I, name := "<init>", desc := "()V" }
abbrev b_I_init : ByteArray := prog_5_method_1_code
abbrev y_T_init : MethodName := { cls := R_T, name := "<init>", desc := "()V" }
abbrev b_T_init : ByteArray := prog_7_method_1_code
abbrev y_K_even : MethodName := { cls := R_K, name := "even", desc := "(I)J" }
abbrev b_K_even : ByteArray := prog_1_method_5_code
abbrev y_C_pointAt : MethodName := { cls := R_C, name := "pointAt", desc := "(JZ)J" }
abbrev b_C_pointAt : ByteArray := prog_2_method_7_code
abbrev y_F_has : MethodName := { cls := R_F, name := "has", desc := "(J)Z" }
abbrev b_F_has : ByteArray := prog_3_method_2_code
abbrev y_F_rootIfAny : MethodName := { cls := R_F, name := "rootIfAny", desc := "(J)J" }
abbrev b_F_rootIfAny : ByteArray := prog_3_method_5_code
abbrev y_C_isOdd : MethodName := { cls := R_C, name := "isOdd", desc := "(J)Z" }
abbrev b_C_isOdd : ByteArray := prog_2_method_4_code
abbrev y_C_negative : MethodName := { cls := R_C, name := "negative", desc := "(J)J" }
abbrev b_C_negative : ByteArray := prog_2_method_5_code
abbrev y_C_xOf : MethodName := { cls := R_C, name := "xOf", desc := "(J)J" }
abbrev b_C_xOf : ByteArray := prog_2_method_2_code
abbrev y_C_yOf : MethodName := { cls := R_C, name := "yOf", desc := "(J)J" }
abbrev b_C_yOf : ByteArray := prog_2_method_3_code
abbrev y_C_toCode : MethodName := { cls := R_C, name := "toCode", desc := "(J)J" }
abbrev b_C_toCode : ByteArray := prog_2_method_8_code
abbrev y_K_mark : MethodName := { cls := R_K, name := "mark", desc := "()I" }
abbrev b_K_mark : ByteArray := prog_1_method_10_code
abbrev y_K_right : MethodName := { cls := R_K, name := "right", desc := "(J)Z" }
abbrev b_K_right : ByteArray := prog_1_method_16_code
abbrev y_I_balance : MethodName := { cls := R_I, name := "balance", desc := "(J)Z" }
abbrev b_I_balance : ByteArray := prog_5_method_5_code
abbrev y_S_has : MethodName := { cls := R_S, name := "has", desc := "(J)Z" }
abbrev b_S_has : ByteArray := prog_6_method_2_code
abbrev y_I_weight : MethodName := { cls := R_I, name := "weight", desc := "(JI)J" }
abbrev b_I_weight : ByteArray := prog_5_method_6_code
abbrev y_K_mix : MethodName := { cls := R_K, name := "mix", desc := "(JJ)J" }
abbrev b_K_mix : ByteArray := prog_1_method_29_code
abbrev y_K_challenge : MethodName := { cls := R_K, name := "challenge", desc := "(JJJ)J" }
abbrev b_K_challenge : ByteArray := prog_1_method_31_code
abbrev y_C_sumOfMultiples : MethodName := { cls := R_C, name := "sumOfMultiples", desc := "(JJJJ)J" }
abbrev b_C_sumOfMultiples : ByteArray := prog_2_method_12_code
abbrev y_C_multiple : MethodName := { cls := R_C, name := "multiple", desc := "(JJ)J" }
abbrev b_C_multiple : ByteArray := prog_2_method_11_code
abbrev y_C_sum : MethodName := { cls := R_C, name := "sum", desc := "(JJ)J" }
abbrev b_C_sum : ByteArray := prog_2_method_10_code
abbrev y_F_quotient : MethodName := { cls := R_F, name := "quotient", desc := "(JJ)J" }
abbrev b_F_quotient : ByteArray := prog_3_method_4_code
abbrev y_F_reduced : MethodName := { cls := R_F, name := "reduced", desc := "(J)J" }
abbrev b_F_reduced : ByteArray := prog_3_method_3_code
abbrev y_K_inverse : MethodName := { cls := R_K, name := "inverse", desc := "(JJ)J" }
abbrev b_K_inverse : ByteArray := prog_1_method_32_code
abbrev y_I_clear : MethodName := { cls := R_I, name := "clear", desc := "()V" }
abbrev b_I_clear : ByteArray := prog_5_method_4_code
abbrev y_K_read : MethodName := { cls := R_K, name := "read", desc := "()J" }
abbrev b_K_read : ByteArray := prog_1_method_20_code
abbrev y_T_numbers : MethodName := { cls := R_T, name := "numbers", desc := "()J" }
abbrev b_T_numbers : ByteArray := prog_7_method_5_code
abbrev y_T_sizeAt : MethodName := { cls := R_T, name := "sizeAt", desc := "(I)I" }
abbrev b_T_sizeAt : ByteArray := prog_7_method_6_code
abbrev y_T_numberAt : MethodName := { cls := R_T, name := "numberAt", desc := "(I)I" }
abbrev b_T_numberAt : ByteArray := prog_7_method_7_code
abbrev y_T_areFormOf : MethodName := { cls := R_T, name := "areFormOf", desc := "(II)Z" }
abbrev b_T_areFormOf : ByteArray := prog_7_method_8_code
abbrev y_O_length : MethodName := { cls := R_O, name := "length", desc := "(II)I" }
abbrev b_O_length : ByteArray := prog_4_method_3_code
abbrev y_O_bytesOf : MethodName := { cls := R_O, name := "bytesOf", desc := "(I)I" }
abbrev b_O_bytesOf : ByteArray := prog_4_method_2_code
abbrev y_O_byteAt : MethodName := { cls := R_O, name := "byteAt", desc := "(III)I" }
abbrev b_O_byteAt : ByteArray := prog_4_method_4_code
abbrev y_O_numberByteAt : MethodName := { cls := R_O, name := "numberByteAt", desc := "(II)I" }
abbrev b_O_numberByteAt : ByteArray := prog_4_method_5_code
abbrev y_T_clear : MethodName := { cls := R_T, name := "clear", desc := "()V" }
abbrev b_T_clear : ByteArray := prog_7_method_4_code
abbrev y_L_secret : MethodName := { cls := R_L, name := "secret", desc := "(LEvenCurveKeys;II[J)I" }
abbrev b_L_secret : ByteArray := method_3_code
abbrev y_K_secret : MethodName := { cls := R_K, name := "secret", desc := "(II)J" }
abbrev b_K_secret : ByteArray := prog_1_method_2_code
abbrev y_K_needSlot : MethodName := { cls := R_K, name := "needSlot", desc := "(I)V" }
abbrev b_K_needSlot : ByteArray := prog_1_method_21_code
abbrev y_S_isUnit : MethodName := { cls := R_S, name := "isUnit", desc := "(J)Z" }
abbrev b_S_isUnit : ByteArray := prog_6_method_3_code
abbrev y_K_needArgument : MethodName := { cls := R_K, name := "needArgument", desc := "(Z)V" }
abbrev b_K_needArgument : ByteArray := prog_1_method_22_code
abbrev y_K_fill : MethodName := { cls := R_K, name := "fill", desc := "(IJJ)J" }
abbrev b_K_fill : ByteArray := prog_1_method_25_code
abbrev y_L_open : MethodName := { cls := R_L, name := "open", desc := "(LEvenCurveKeys;IJ)I" }
abbrev b_L_open : ByteArray := method_4_code
abbrev y_K_open : MethodName := { cls := R_K, name := "open", desc := "(IJ)V" }
abbrev b_K_open : ByteArray := prog_1_method_3_code
abbrev y_C_fromCode : MethodName := { cls := R_C, name := "fromCode", desc := "(J)J" }
abbrev b_C_fromCode : ByteArray := prog_2_method_9_code
abbrev y_L_code : MethodName := { cls := R_L, name := "code", desc := "(LEvenCurveKeys;I[J)I" }
abbrev b_L_code : ByteArray := method_5_code
abbrev y_K_code : MethodName := { cls := R_K, name := "code", desc := "(I)J" }
abbrev b_K_code : ByteArray := prog_1_method_4_code
abbrev y_L_tweak : MethodName := { cls := R_L, name := "tweak", desc := "(LEvenCurveKeys;IIZ[J)I" }
abbrev b_L_tweak : ByteArray := method_6_code
abbrev y_K_tweak : MethodName := { cls := R_K, name := "tweak", desc := "(IIZ)J" }
abbrev b_K_tweak : ByteArray := prog_1_method_6_code
abbrev y_K_pointOf : MethodName := { cls := R_K, name := "pointOf", desc := "(I)J" }
abbrev b_K_pointOf : ByteArray := prog_1_method_23_code
abbrev y_K_movedSecret : MethodName := { cls := R_K, name := "movedSecret", desc := "(JJZ)J" }
abbrev b_K_movedSecret : ByteArray := prog_1_method_26_code
abbrev y_L_combine : MethodName := { cls := R_L, name := "combine", desc := "(LEvenCurveKeys;III[J)I" }
abbrev b_L_combine : ByteArray := method_7_code
abbrev y_K_combine : MethodName := { cls := R_K, name := "combine", desc := "(III)J" }
abbrev b_K_combine : ByteArray := prog_1_method_7_code
abbrev y_L_linear : MethodName := { cls := R_L, name := "linear", desc := "(LEvenCurveKeys;III[J)I" }
abbrev b_L_linear : ByteArray := method_8_code
abbrev y_K_linear : MethodName := { cls := R_K, name := "linear", desc := "(III)J" }
abbrev b_K_linear : ByteArray := prog_1_method_8_code
abbrev y_L_sign : MethodName := { cls := R_L, name := "sign", desc := "(LEvenCurveKeys;IJ[J)I" }
abbrev b_L_sign : ByteArray := method_9_code
abbrev y_K_sign : MethodName := { cls := R_K, name := "sign", desc := "(IJ)J" }
abbrev b_K_sign : ByteArray := prog_1_method_9_code
abbrev y_K_secretOf : MethodName := { cls := R_K, name := "secretOf", desc := "(I)J" }
abbrev b_K_secretOf : ByteArray := prog_1_method_24_code
abbrev y_K_digest : MethodName := { cls := R_K, name := "digest", desc := "(J)J" }
abbrev b_K_digest : ByteArray := prog_1_method_30_code
abbrev y_S_quotient : MethodName := { cls := R_S, name := "quotient", desc := "(JJ)J" }
abbrev b_S_quotient : ByteArray := prog_6_method_4_code
abbrev y_K_markOf : MethodName := { cls := R_K, name := "markOf", desc := "(JJ)I" }
abbrev b_K_markOf : ByteArray := prog_1_method_27_code
abbrev y_L_good : MethodName := { cls := R_L, name := "good", desc := "(LEvenCurveKeys;IJII[J)I" }
abbrev b_L_good : ByteArray := method_10_code
abbrev y_K_good : MethodName := { cls := R_K, name := "good", desc := "(IJII)Z" }
abbrev b_K_good : ByteArray := prog_1_method_11_code
abbrev y_L_recover : MethodName := { cls := R_L, name := "recover", desc := "(LEvenCurveKeys;IJIII[J)I" }
abbrev b_L_recover : ByteArray := method_11_code
abbrev y_K_recover : MethodName := { cls := R_K, name := "recover", desc := "(IJIII)J" }
abbrev b_K_recover : ByteArray := prog_1_method_12_code
abbrev y_L_prove : MethodName := { cls := R_L, name := "prove", desc := "(LEvenCurveKeys;IJJ[J)I" }
abbrev b_L_prove : ByteArray := method_12_code
abbrev y_K_prove : MethodName := { cls := R_K, name := "prove", desc := "(IJJ)J" }
abbrev b_K_prove : ByteArray := prog_1_method_13_code
abbrev y_K_evenScalar : MethodName := { cls := R_K, name := "evenScalar", desc := "(JJ)J" }
abbrev b_K_evenScalar : ByteArray := prog_1_method_28_code
abbrev y_L_holds : MethodName := { cls := R_L, name := "holds", desc := "(LEvenCurveKeys;IJII[J)I" }
abbrev b_L_holds : ByteArray := method_13_code
abbrev y_K_holds : MethodName := { cls := R_K, name := "holds", desc := "(IJII)Z" }
abbrev b_K_holds : ByteArray := prog_1_method_14_code
abbrev y_C_evenOf : MethodName := { cls := R_C, name := "evenOf", desc := "(J)J" }
abbrev b_C_evenOf : ByteArray := prog_2_method_6_code
abbrev y_L_bundle : MethodName := { cls := R_L, name := "bundle", desc := "(LEvenCurveKeys;IJII[J)I" }
abbrev b_L_bundle : ByteArray := method_14_code
abbrev y_K_bundle : MethodName := { cls := R_K, name := "bundle", desc := "(IJII)I" }
abbrev b_K_bundle : ByteArray := prog_1_method_15_code
abbrev y_I_areFull : MethodName := { cls := R_I, name := "areFull", desc := "()Z" }
abbrev b_I_areFull : ByteArray := prog_5_method_2_code
abbrev y_I_put : MethodName := { cls := R_I, name := "put", desc := "(JJII)I" }
abbrev b_I_put : ByteArray := prog_5_method_3_code
abbrev y_L_agree : MethodName := { cls := R_L, name := "agree", desc := "(LEvenCurveKeys;II[J)I" }
abbrev b_L_agree : ByteArray := method_15_code
abbrev y_K_agree : MethodName := { cls := R_K, name := "agree", desc := "(II)J" }
abbrev b_K_agree : ByteArray := prog_1_method_17_code
abbrev y_L_written : MethodName := { cls := R_L, name := "written", desc := "(LEvenCurveKeys;III[J)I" }
abbrev b_L_written : ByteArray := method_16_code
abbrev y_K_written : MethodName := { cls := R_K, name := "written", desc := "(III)I" }
abbrev b_K_written : ByteArray := prog_1_method_18_code
abbrev y_L_type : MethodName := { cls := R_L, name := "type", desc := "(LEvenCurveKeys;I[J)I" }
abbrev b_L_type : ByteArray := method_17_code
abbrev y_K_type : MethodName := { cls := R_K, name := "type", desc := "(I)I" }
abbrev b_K_type : ByteArray := prog_1_method_19_code
abbrev y_T_isFull : MethodName := { cls := R_T, name := "isFull", desc := "()Z" }
abbrev b_T_isFull : ByteArray := prog_7_method_2_code
abbrev y_T_put : MethodName := { cls := R_T, name := "put", desc := "(I)I" }
abbrev b_T_put : ByteArray := prog_7_method_3_code
abbrev y_M_init : MethodName := { cls := R_M, name := "<init>", desc := "()V" }
abbrev b_M_init : ByteArray := prog_9_method_1_code
abbrev y_M_thrown : MethodName := { cls := R_M, name := "thrown", desc := "()I" }
abbrev b_M_thrown : ByteArray := prog_9_method_2_code
abbrev y_M_secret : MethodName := { cls := R_M, name := "secret", desc := "(II)J" }
abbrev b_M_secret : ByteArray := prog_9_method_20_code
abbrev y_M_isSlot : MethodName := { cls := R_M, name := "isSlot", desc := "(I)Z" }
abbrev b_M_isSlot : ByteArray := prog_9_method_17_code
abbrev y_M_g : MethodName := { cls := R_M, name := "g", desc := "()J" }
abbrev b_M_g : ByteArray := prog_9_method_12_code
abbrev y_M_times : MethodName := { cls := R_M, name := "times", desc := "(JJ)J" }
abbrev b_M_times : ByteArray := prog_9_method_11_code
abbrev y_M_sum : MethodName := { cls := R_M, name := "sum", desc := "(JJ)J" }
abbrev b_M_sum : ByteArray := prog_9_method_10_code
abbrev y_M_xOf : MethodName := { cls := R_M, name := "xOf", desc := "(J)J" }
abbrev b_M_xOf : ByteArray := prog_9_method_8_code
abbrev y_M_yOf : MethodName := { cls := R_M, name := "yOf", desc := "(J)J" }
abbrev b_M_yOf : ByteArray := prog_9_method_9_code
abbrev y_M_quotient : MethodName := { cls := R_M, name := "quotient", desc := "(JJJ)J" }
abbrev b_M_quotient : ByteArray := prog_9_method_5_code
abbrev y_M_mod : MethodName := { cls := R_M, name := "mod", desc := "(JJ)J" }
abbrev b_M_mod : ByteArray := prog_9_method_3_code
abbrev y_M_power : MethodName := { cls := R_M, name := "power", desc := "(JJJ)J" }
abbrev b_M_power : ByteArray := prog_9_method_4_code
abbrev y_M_codeOf : MethodName := { cls := R_M, name := "codeOf", desc := "(J)J" }
abbrev b_M_codeOf : ByteArray := prog_9_method_15_code
abbrev y_M_open : MethodName := { cls := R_M, name := "open", desc := "(IJ)V" }
abbrev b_M_open : ByteArray := prog_9_method_22_code
abbrev y_M_pointOf : MethodName := { cls := R_M, name := "pointOf", desc := "(J)J" }
abbrev b_M_pointOf : ByteArray := prog_9_method_16_code
abbrev y_M_lift : MethodName := { cls := R_M, name := "lift", desc := "(JZ)J" }
abbrev b_M_lift : ByteArray := prog_9_method_14_code
abbrev y_M_lay : MethodName := { cls := R_M, name := "lay", desc := "(IJ)V" }
abbrev b_M_lay : ByteArray := prog_9_method_21_code
abbrev y_M_code : MethodName := { cls := R_M, name := "code", desc := "(I)J" }
abbrev b_M_code : ByteArray := prog_9_method_23_code
abbrev y_M_even : MethodName := { cls := R_M, name := "even", desc := "(I)J" }
abbrev b_M_even : ByteArray := prog_9_method_24_code
abbrev y_M_tweak : MethodName := { cls := R_M, name := "tweak", desc := "(IIZ)J" }
abbrev b_M_tweak : ByteArray := prog_9_method_25_code
abbrev y_M_full : MethodName := { cls := R_M, name := "full", desc := "(I)Z" }
abbrev b_M_full : ByteArray := prog_9_method_18_code
abbrev y_M_isScalar : MethodName := { cls := R_M, name := "isScalar", desc := "(I)Z" }
abbrev b_M_isScalar : ByteArray := prog_9_method_19_code
abbrev y_M_combine : MethodName := { cls := R_M, name := "combine", desc := "(III)J" }
abbrev b_M_combine : ByteArray := prog_9_method_26_code
abbrev y_M_linear : MethodName := { cls := R_M, name := "linear", desc := "(III)J" }
abbrev b_M_linear : ByteArray := prog_9_method_27_code
abbrev y_M_sign : MethodName := { cls := R_M, name := "sign", desc := "(IJ)J" }
abbrev b_M_sign : ByteArray := prog_9_method_29_code
abbrev y_M_noSecret : MethodName := { cls := R_M, name := "noSecret", desc := "(I)I" }
abbrev b_M_noSecret : ByteArray := prog_9_method_28_code
abbrev y_M_digest : MethodName := { cls := R_M, name := "digest", desc := "(J)J" }
abbrev b_M_digest : ByteArray := prog_9_method_7_code
abbrev y_M_h : MethodName := { cls := R_M, name := "h", desc := "(JJ)J" }
abbrev b_M_h : ByteArray := prog_9_method_6_code
abbrev y_M_odd : MethodName := { cls := R_M, name := "odd", desc := "(J)Z" }
abbrev b_M_odd : ByteArray := prog_9_method_13_code
abbrev y_M_mark : MethodName := { cls := R_M, name := "mark", desc := "()I" }
abbrev b_M_mark : ByteArray := prog_9_method_30_code
abbrev y_M_good : MethodName := { cls := R_M, name := "good", desc := "(IJII)Z" }
abbrev b_M_good : ByteArray := prog_9_method_32_code
abbrev y_M_noPoint : MethodName := { cls := R_M, name := "noPoint", desc := "(I)I" }
abbrev b_M_noPoint : ByteArray := prog_9_method_31_code
abbrev y_M_recover : MethodName := { cls := R_M, name := "recover", desc := "(IJIII)J" }
abbrev b_M_recover : ByteArray := prog_9_method_33_code
abbrev y_M_prove : MethodName := { cls := R_M, name := "prove", desc := "(IJJ)J" }
abbrev b_M_prove : ByteArray := prog_9_method_35_code
abbrev y_M_challenge : MethodName := { cls := R_M, name := "challenge", desc := "(JJJ)J" }
abbrev b_M_challenge : ByteArray := prog_9_method_34_code
abbrev y_M_holds : MethodName := { cls := R_M, name := "holds", desc := "(IJII)Z" }
abbrev b_M_holds : ByteArray := prog_9_method_36_code
abbrev y_M_bundle : MethodName := { cls := R_M, name := "bundle", desc := "(IJII)I" }
abbrev b_M_bundle : ByteArray := prog_9_method_37_code
abbrev y_M_right : MethodName := { cls := R_M, name := "right", desc := "(J)Z" }
abbrev b_M_right : ByteArray := prog_9_method_38_code
abbrev y_M_agree : MethodName := { cls := R_M, name := "agree", desc := "(II)J" }
abbrev b_M_agree : ByteArray := prog_9_method_39_code
abbrev y_M_written : MethodName := { cls := R_M, name := "written", desc := "(III)I" }
abbrev b_M_written : ByteArray := prog_9_method_44_code
abbrev y_M_layForm : MethodName := { cls := R_M, name := "layForm", desc := "(II)V" }
abbrev b_M_layForm : ByteArray := prog_9_method_43_code
abbrev y_M_layByte : MethodName := { cls := R_M, name := "layByte", desc := "(I)V" }
abbrev b_M_layByte : ByteArray := prog_9_method_41_code
abbrev y_M_bytesOf : MethodName := { cls := R_M, name := "bytesOf", desc := "(I)I" }
abbrev b_M_bytesOf : ByteArray := prog_9_method_40_code
abbrev y_M_layNumber : MethodName := { cls := R_M, name := "layNumber", desc := "(I)V" }
abbrev b_M_layNumber : ByteArray := prog_9_method_42_code
abbrev y_M_type : MethodName := { cls := R_M, name := "type", desc := "(I)I" }
abbrev b_M_type : ByteArray := prog_9_method_45_code
abbrev y_M_read : MethodName := { cls := R_M, name := "read", desc := "()J" }
abbrev b_M_read : ByteArray := prog_9_method_49_code
abbrev y_M_numberAt : MethodName := { cls := R_M, name := "numberAt", desc := "(I)I" }
abbrev b_M_numberAt : ByteArray := prog_9_method_47_code
abbrev y_M_byteAt : MethodName := { cls := R_M, name := "byteAt", desc := "(I)I" }
abbrev b_M_byteAt : ByteArray := prog_9_method_46_code
abbrev y_M_same : MethodName := { cls := R_M, name := "same", desc := "(II)Z" }
abbrev b_M_same : ByteArray := prog_9_method_48_code
abbrev y_L_law : MethodName := { cls := R_L, name := "law", desc := "([I)Z" }
abbrev b_L_law : ByteArray := code
/-- the tables' words that stay -/
def wa : List Cond := lw_tbl.filter goodWord
theorem wa_in {w : Cond} (h : w ∈ tables_1) (hg : goodWord w = true) : w ∈ wa := List.mem_filter.mpr ⟨List.mem_append_right _ h, hg⟩
theorem wa_1 {w : Cond} (i : Nat) (h : tables_1_1[i]? = some w) (hg : goodWord w = true) : w ∈ wa := wa_in (List.mem_append_left _ (List.mem_of_getElem? h)) hg
theorem wa_2 {w : Cond} (i : Nat) (h : tables_1_2[i]? = some w) (hg : goodWord w = true) : w ∈ wa := wa_in (List.mem_append_right _ (List.mem_append_left _ (List.mem_of_getElem? h))) hg
theorem wa_3 {w : Cond} (i : Nat) (h : tables_1_3[i]? = some w) (hg : goodWord w = true) : w ∈ wa := wa_in (List.mem_append_right _ (List.mem_append_right _ (List.mem_append_left _ (List.mem_of_getElem? h)))) hg
theorem wa_4 {w : Cond} (i : Nat) (h : tables_1_4[i]? = some w) (hg : goodWord w = true) : w ∈ wa := wa_in (List.mem_append_right _ (List.mem_append_right _ (List.mem_append_right _ (List.mem_of_getElem? h)))) hg
theorem wa_good {w : Cond} (h : w ∈ wa) : goodWord w = true := (List.mem_filter.mp h).2
theorem ga_S {c0 c1 : Cond} {own : String} {idx : Nat} {y : MethodName} (h1 : Cond.methodLink own idx y ∈ wa) (h2 : Cond.static y ∈ wa) (h3 : Cond.initialized y.cls ∈ wa) (h4 : c1 ∈ wa) : GoodIn (c0 :: wa) (va_wsS own idx y (c1 :: wa)) := by
  have hg : ∀ w, w ∈ wa → w ∈ c0 :: wa ∧ ((w.onTables && w.keeps) = true ∨ ∃ ty, w = .arrayClass ty) := fun w h => ⟨List.mem_cons_of_mem _ h, good_of_word (wa_good h)⟩
  intro w hw
  unfold va_wsS at hw
  simp only [List.cons_append, List.nil_append, List.mem_cons] at hw
  rcases hw with h | h | h | h | h
  · rw [h]; exact hg _ h1
  · rw [h]; exact hg _ h2
  · rw [h]; exact hg _ h3
  · rw [h]; exact hg _ h4
  · exact hg _ h
theorem ga_N {c0 c1 : Cond} (h4 : c1 ∈ wa) : GoodIn (c0 :: wa) (c1 :: wa) := by
  intro w hw
  rcases List.mem_cons.mp hw with h | h
  · rw [h]; exact ⟨List.mem_cons_of_mem _ h4, good_of_word (wa_good h4)⟩
  · exact ⟨List.mem_cons_of_mem _ h, good_of_word (wa_good h)⟩
def nwl : List Cond := [(Jvm.Cond.methodLinkNest "EvenCurveKeys" (18 : Nat) ({ cls := "EvenCurveKeys$Items", name := "<init>", desc := "()V" } : Jvm.MethodName) "EvenCurveKeys"), (Jvm.Cond.methodLinkNest "EvenCurveKeys" (25 : Nat) ({ cls := "EvenCurveKeys$Typed", name := "<init>", desc := "()V" } : Jvm.MethodName) "EvenCurveKeys"), (Jvm.Cond.methodLinkNest "EvenCurveKeys$Items" (71 : Nat) ({ cls := "EvenCurveKeys", name := "mix", desc := "(JJ)J" } : Jvm.MethodName) "EvenCurveKeys"), (Jvm.Cond.methodLinkNest "EvenCurveKeys$Items" (52 : Nat) ({ cls := "EvenCurveKeys", name := "challenge", desc := "(JJJ)J" } : Jvm.MethodName) "EvenCurveKeys"), (Jvm.Cond.methodLinkNest "EvenCurveKeys$Field" (15 : Nat) ({ cls := "EvenCurveKeys", name := "inverse", desc := "(JJ)J" } : Jvm.MethodName) "EvenCurveKeys"), (Jvm.Cond.methodLinkNest "EvenCurveKeys$Scalars" (11 : Nat) ({ cls := "EvenCurveKeys", name := "inverse", desc := "(JJ)J" } : Jvm.MethodName) "EvenCurveKeys")]
def nw (U : State) : Prop := ∀ w ∈ nwl, va_Nw w U
theorem nw_on : ∀ w ∈ nwl, w.onTables = true := by decide +kernel
theorem nw_vm {u U : State} (h : u.vm = U.vm) (hn : nw u) : nw U := fun w hw => va_tabs (nw_on w hw) h (hn w hw)
theorem nw_warm {s U : State} (hW : s.WarmedH U.vm) (hn : nw s) : nw U := by
  intro w hw
  have h1 := hn w hw
  simp only [nwl, List.mem_cons, List.not_mem_nil, or_false] at hw
  rcases hw with rfl | rfl | rfl | rfl | rfl | rfl <;> exact va_Nw.warmM hW h1
/-- a start that asks for no cells -/
def pcs (As : List Value) : Array Value → State → Prop := fun v U => v = As.toArray ∧ nw U
theorem pcs_pre {s : State} {H : Heap} {As : List Value} (hN : nw s) : PreS s H (pcs As) As := ⟨fun a U g mk q => ⟨q.1, nw_vm (u := U) (U := U.calling g mk a) rfl q.2⟩, fun U hU hW => ⟨rfl, nw_warm hW hN⟩⟩
theorem nl_0 : (Jvm.Cond.methodLinkNest "EvenCurveKeys" (18 : Nat) ({ cls := "EvenCurveKeys$Items", name := "<init>", desc := "()V" } : Jvm.MethodName) "EvenCurveKeys") ∈ nwl := List.mem_of_getElem? (i := 0) rfl
theorem nl_1 : (Jvm.Cond.methodLinkNest "EvenCurveKeys" (25 : Nat) ({ cls := "EvenCurveKeys$Typed", name := "<init>", desc := "()V" } : Jvm.MethodName) "EvenCurveKeys") ∈ nwl := List.mem_of_getElem? (i := 1) rfl
theorem nl_2 : (Jvm.Cond.methodLinkNest "EvenCurveKeys$Items" (71 : Nat) ({ cls := "EvenCurveKeys", name := "mix", desc := "(JJ)J" } : Jvm.MethodName) "EvenCurveKeys") ∈ nwl := List.mem_of_getElem? (i := 2) rfl
theorem nl_3 : (Jvm.Cond.methodLinkNest "EvenCurveKeys$Items" (52 : Nat) ({ cls := "EvenCurveKeys", name := "challenge", desc := "(JJJ)J" } : Jvm.MethodName) "EvenCurveKeys") ∈ nwl := List.mem_of_getElem? (i := 3) rfl
theorem nl_4 : (Jvm.Cond.methodLinkNest "EvenCurveKeys$Field" (15 : Nat) ({ cls := "EvenCurveKeys", name := "inverse", desc := "(JJ)J" } : Jvm.MethodName) "EvenCurveKeys") ∈ nwl := List.mem_of_getElem? (i := 4) rfl
theorem nl_5 : (Jvm.Cond.methodLinkNest "EvenCurveKeys$Scalars" (11 : Nat) ({ cls := "EvenCurveKeys", name := "inverse", desc := "(JJ)J" } : Jvm.MethodName) "EvenCurveKeys") ∈ nwl := List.mem_of_getElem? (i := 5) rfl
