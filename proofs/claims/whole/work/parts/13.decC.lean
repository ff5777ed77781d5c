theorem d_C_pointAt_0 : decode b_C_pointAt 0 = .ok (.lload_n 0, 1) := by decide +kernel
theorem d_C_pointAt_1 : decode b_C_pointAt 1 = .ok (.invokestatic 33, 3) := by decide +kernel
theorem d_C_pointAt_4 : decode b_C_pointAt 4 = .ok (.ifCond .ne 5, 3) := by decide +kernel
theorem d_C_pointAt_7 : decode b_C_pointAt 7 = .ok (.lconst 0, 1) := by decide +kernel
theorem d_C_pointAt_8 : decode b_C_pointAt 8 = .ok (.lreturn, 1) := by decide +kernel
theorem d_C_pointAt_9 : decode b_C_pointAt 9 = .ok (.lload_n 0, 1) := by decide +kernel
theorem d_C_pointAt_10 : decode b_C_pointAt 10 = .ok (.lload_n 0, 1) := by decide +kernel
theorem d_C_pointAt_11 : decode b_C_pointAt 11 = .ok (.lmul, 1) := by decide +kernel
theorem d_C_pointAt_12 : decode b_C_pointAt 12 = .ok (.ldc2_w 21, 3) := by decide +kernel
theorem d_C_pointAt_15 : decode b_C_pointAt 15 = .ok (.lrem, 1) := by decide +kernel
theorem d_C_pointAt_16 : decode b_C_pointAt 16 = .ok (.lload_n 0, 1) := by decide +kernel
theorem d_C_pointAt_17 : decode b_C_pointAt 17 = .ok (.lmul, 1) := by decide +kernel
theorem d_C_pointAt_18 : decode b_C_pointAt 18 = .ok (.ldc2_w 36, 3) := by decide +kernel
theorem d_C_pointAt_21 : decode b_C_pointAt 21 = .ok (.ladd, 1) := by decide +kernel
theorem d_C_pointAt_22 : decode b_C_pointAt 22 = .ok (.ldc2_w 21, 3) := by decide +kernel
theorem d_C_pointAt_25 : decode b_C_pointAt 25 = .ok (.lrem, 1) := by decide +kernel
theorem d_C_pointAt_26 : decode b_C_pointAt 26 = .ok (.lstore_n 3, 1) := by decide +kernel
theorem d_C_pointAt_27 : decode b_C_pointAt 27 = .ok (.lload_n 3, 1) := by decide +kernel
theorem d_C_pointAt_28 : decode b_C_pointAt 28 = .ok (.invokestatic 38, 3) := by decide +kernel
theorem d_C_pointAt_31 : decode b_C_pointAt 31 = .ok (.lstore 5, 2) := by decide +kernel
theorem d_C_pointAt_33 : decode b_C_pointAt 33 = .ok (.lload 5, 2) := by decide +kernel
theorem d_C_pointAt_35 : decode b_C_pointAt 35 = .ok (.lload 5, 2) := by decide +kernel
theorem d_C_pointAt_37 : decode b_C_pointAt 37 = .ok (.lmul, 1) := by decide +kernel
theorem d_C_pointAt_38 : decode b_C_pointAt 38 = .ok (.ldc2_w 21, 3) := by decide +kernel
theorem d_C_pointAt_41 : decode b_C_pointAt 41 = .ok (.lrem, 1) := by decide +kernel
theorem d_C_pointAt_42 : decode b_C_pointAt 42 = .ok (.lload_n 3, 1) := by decide +kernel
theorem d_C_pointAt_43 : decode b_C_pointAt 43 = .ok (.lcmp, 1) := by decide +kernel
theorem d_C_pointAt_44 : decode b_C_pointAt 44 = .ok (.ifCond .eq 5, 3) := by decide +kernel
theorem d_C_pointAt_47 : decode b_C_pointAt 47 = .ok (.lconst 0, 1) := by decide +kernel
theorem d_C_pointAt_48 : decode b_C_pointAt 48 = .ok (.lreturn, 1) := by decide +kernel
theorem d_C_pointAt_49 : decode b_C_pointAt 49 = .ok (.lload_n 0, 1) := by decide +kernel
theorem d_C_pointAt_50 : decode b_C_pointAt 50 = .ok (.ldc2_w 9, 3) := by decide +kernel
theorem d_C_pointAt_53 : decode b_C_pointAt 53 = .ok (.lmul, 1) := by decide +kernel
theorem d_C_pointAt_54 : decode b_C_pointAt 54 = .ok (.lload 5, 2) := by decide +kernel
theorem d_C_pointAt_56 : decode b_C_pointAt 56 = .ok (.ladd, 1) := by decide +kernel
theorem d_C_pointAt_57 : decode b_C_pointAt 57 = .ok (.lstore 7, 2) := by decide +kernel
theorem d_C_pointAt_59 : decode b_C_pointAt 59 = .ok (.lload 7, 2) := by decide +kernel
theorem d_C_pointAt_61 : decode b_C_pointAt 61 = .ok (.invokestatic 26, 3) := by decide +kernel
theorem d_C_pointAt_64 : decode b_C_pointAt 64 = .ok (.iload_n 2, 1) := by decide +kernel
theorem d_C_pointAt_65 : decode b_C_pointAt 65 = .ok (.if_icmp .ne 8, 3) := by decide +kernel
theorem d_C_pointAt_68 : decode b_C_pointAt 68 = .ok (.lload 7, 2) := by decide +kernel
theorem d_C_pointAt_70 : decode b_C_pointAt 70 = .ok (.goto 8, 3) := by decide +kernel
theorem d_C_pointAt_73 : decode b_C_pointAt 73 = .ok (.lload 7, 2) := by decide +kernel
theorem d_C_pointAt_75 : decode b_C_pointAt 75 = .ok (.invokestatic 30, 3) := by decide +kernel
theorem d_C_pointAt_78 : decode b_C_pointAt 78 = .ok (.lreturn, 1) := by decide +kernel
theorem d_F_has_0 : decode b_F_has 0 = .ok (.lload_n 0, 1) := by decide +kernel
theorem d_F_has_1 : decode b_F_has 1 = .ok (.lconst 0, 1) := by decide +kernel
theorem d_F_has_2 : decode b_F_has 2 = .ok (.lcmp, 1) := by decide +kernel
theorem d_F_has_3 : decode b_F_has 3 = .ok (.ifCond .lt 15, 3) := by decide +kernel
theorem d_F_has_6 : decode b_F_has 6 = .ok (.lload_n 0, 1) := by decide +kernel
theorem d_F_has_7 : decode b_F_has 7 = .ok (.ldc2_w 9, 3) := by decide +kernel
theorem d_F_has_10 : decode b_F_has 10 = .ok (.lcmp, 1) := by decide +kernel
theorem d_F_has_11 : decode b_F_has 11 = .ok (.ifCond .ge 7, 3) := by decide +kernel
theorem d_F_has_14 : decode b_F_has 14 = .ok (.iconst 1, 1) := by decide +kernel
theorem d_F_has_15 : decode b_F_has 15 = .ok (.goto 4, 3) := by decide +kernel
theorem d_F_has_18 : decode b_F_has 18 = .ok (.iconst 0, 1) := by decide +kernel
theorem d_F_has_19 : decode b_F_has 19 = .ok (.ireturn, 1) := by decide +kernel
theorem d_F_rootIfAny_0 : decode b_F_rootIfAny 0 = .ok (.ldc2_w 21, 3) := by decide +kernel
theorem d_F_rootIfAny_3 : decode b_F_rootIfAny 3 = .ok (.lstore_n 2, 1) := by decide +kernel
theorem d_F_rootIfAny_4 : decode b_F_rootIfAny 4 = .ok (.lconst 1, 1) := by decide +kernel
theorem d_F_rootIfAny_5 : decode b_F_rootIfAny 5 = .ok (.lstore 4, 2) := by decide +kernel
theorem d_F_rootIfAny_7 : decode b_F_rootIfAny 7 = .ok (.bipush 29, 2) := by decide +kernel
theorem d_F_rootIfAny_9 : decode b_F_rootIfAny 9 = .ok (.istore 6, 2) := by decide +kernel
theorem d_F_rootIfAny_11 : decode b_F_rootIfAny 11 = .ok (.iload 6, 2) := by decide +kernel
theorem d_F_rootIfAny_13 : decode b_F_rootIfAny 13 = .ok (.ifCond .lt 41, 3) := by decide +kernel
theorem d_F_rootIfAny_16 : decode b_F_rootIfAny 16 = .ok (.lload 4, 2) := by decide +kernel
theorem d_F_rootIfAny_18 : decode b_F_rootIfAny 18 = .ok (.lload 4, 2) := by decide +kernel
theorem d_F_rootIfAny_20 : decode b_F_rootIfAny 20 = .ok (.lmul, 1) := by decide +kernel
theorem d_F_rootIfAny_21 : decode b_F_rootIfAny 21 = .ok (.ldc2_w 9, 3) := by decide +kernel
theorem d_F_rootIfAny_24 : decode b_F_rootIfAny 24 = .ok (.lrem, 1) := by decide +kernel
theorem d_F_rootIfAny_25 : decode b_F_rootIfAny 25 = .ok (.lstore 4, 2) := by decide +kernel
theorem d_F_rootIfAny_27 : decode b_F_rootIfAny 27 = .ok (.lload_n 2, 1) := by decide +kernel
theorem d_F_rootIfAny_28 : decode b_F_rootIfAny 28 = .ok (.iload 6, 2) := by decide +kernel
theorem d_F_rootIfAny_30 : decode b_F_rootIfAny 30 = .ok (.lushr, 1) := by decide +kernel
theorem d_F_rootIfAny_31 : decode b_F_rootIfAny 31 = .ok (.lconst 1, 1) := by decide +kernel
theorem d_F_rootIfAny_32 : decode b_F_rootIfAny 32 = .ok (.land, 1) := by decide +kernel
theorem d_F_rootIfAny_33 : decode b_F_rootIfAny 33 = .ok (.lconst 1, 1) := by decide +kernel
theorem d_F_rootIfAny_34 : decode b_F_rootIfAny 34 = .ok (.lcmp, 1) := by decide +kernel
theorem d_F_rootIfAny_35 : decode b_F_rootIfAny 35 = .ok (.ifCond .ne 13, 3) := by decide +kernel
theorem d_F_rootIfAny_38 : decode b_F_rootIfAny 38 = .ok (.lload 4, 2) := by decide +kernel
theorem d_F_rootIfAny_40 : decode b_F_rootIfAny 40 = .ok (.lload_n 0, 1) := by decide +kernel
theorem d_F_rootIfAny_41 : decode b_F_rootIfAny 41 = .ok (.lmul, 1) := by decide +kernel
theorem d_F_rootIfAny_42 : decode b_F_rootIfAny 42 = .ok (.ldc2_w 9, 3) := by decide +kernel
theorem d_F_rootIfAny_45 : decode b_F_rootIfAny 45 = .ok (.lrem, 1) := by decide +kernel
theorem d_F_rootIfAny_46 : decode b_F_rootIfAny 46 = .ok (.lstore 4, 2) := by decide +kernel
theorem d_F_rootIfAny_48 : decode b_F_rootIfAny 48 = .ok (.iinc 6 (-1), 3) := by decide +kernel
theorem d_F_rootIfAny_51 : decode b_F_rootIfAny 51 = .ok (.goto (-40), 3) := by decide +kernel
theorem d_F_rootIfAny_54 : decode b_F_rootIfAny 54 = .ok (.lload 4, 2) := by decide +kernel
theorem d_F_rootIfAny_56 : decode b_F_rootIfAny 56 = .ok (.lreturn, 1) := by decide +kernel
theorem d_C_isOdd_0 : decode b_C_isOdd 0 = .ok (.lload_n 0, 1) := by decide +kernel
theorem d_C_isOdd_1 : decode b_C_isOdd 1 = .ok (.ldc2_w 11, 3) := by decide +kernel
theorem d_C_isOdd_4 : decode b_C_isOdd 4 = .ok (.lrem, 1) := by decide +kernel
theorem d_C_isOdd_5 : decode b_C_isOdd 5 = .ok (.lconst 1, 1) := by decide +kernel
theorem d_C_isOdd_6 : decode b_C_isOdd 6 = .ok (.lcmp, 1) := by decide +kernel
theorem d_C_isOdd_7 : decode b_C_isOdd 7 = .ok (.ifCond .ne 7, 3) := by decide +kernel
theorem d_C_isOdd_10 : decode b_C_isOdd 10 = .ok (.iconst 1, 1) := by decide +kernel
theorem d_C_isOdd_11 : decode b_C_isOdd 11 = .ok (.goto 4, 3) := by decide +kernel
theorem d_C_isOdd_14 : decode b_C_isOdd 14 = .ok (.iconst 0, 1) := by decide +kernel
theorem d_C_isOdd_15 : decode b_C_isOdd 15 = .ok (.ireturn, 1) := by decide +kernel
theorem d_C_negative_0 : decode b_C_negative 0 = .ok (.lload_n 0, 1) := by decide +kernel
theorem d_C_negative_1 : decode b_C_negative 1 = .ok (.lconst 0, 1) := by decide +kernel
theorem d_C_negative_2 : decode b_C_negative 2 = .ok (.lcmp, 1) := by decide +kernel
theorem d_C_negative_3 : decode b_C_negative 3 = .ok (.ifCond .ne 7, 3) := by decide +kernel
theorem d_C_negative_6 : decode b_C_negative 6 = .ok (.lconst 0, 1) := by decide +kernel
theorem d_C_negative_7 : decode b_C_negative 7 = .ok (.goto 20, 3) := by decide +kernel
theorem d_C_negative_10 : decode b_C_negative 10 = .ok (.lload_n 0, 1) := by decide +kernel
theorem d_C_negative_11 : decode b_C_negative 11 = .ok (.invokestatic 15, 3) := by decide +kernel
theorem d_C_negative_14 : decode b_C_negative 14 = .ok (.ldc2_w 9, 3) := by decide +kernel
theorem d_C_negative_17 : decode b_C_negative 17 = .ok (.lmul, 1) := by decide +kernel
theorem d_C_negative_18 : decode b_C_negative 18 = .ok (.ldc2_w 21, 3) := by decide +kernel
theorem d_C_negative_21 : decode b_C_negative 21 = .ok (.lload_n 0, 1) := by decide +kernel
theorem d_C_negative_22 : decode b_C_negative 22 = .ok (.invokestatic 23, 3) := by decide +kernel
theorem d_C_negative_25 : decode b_C_negative 25 = .ok (.lsub, 1) := by decide +kernel
theorem d_C_negative_26 : decode b_C_negative 26 = .ok (.ladd, 1) := by decide +kernel
theorem d_C_negative_27 : decode b_C_negative 27 = .ok (.lreturn, 1) := by decide +kernel
theorem d_C_xOf_0 : decode b_C_xOf 0 = .ok (.lload_n 0, 1) := by decide +kernel
theorem d_C_xOf_1 : decode b_C_xOf 1 = .ok (.ldc2_w 9, 3) := by decide +kernel
theorem d_C_xOf_4 : decode b_C_xOf 4 = .ok (.ldiv, 1) := by decide +kernel
theorem d_C_xOf_5 : decode b_C_xOf 5 = .ok (.lreturn, 1) := by decide +kernel
theorem d_C_yOf_0 : decode b_C_yOf 0 = .ok (.lload_n 0, 1) := by decide +kernel
theorem d_C_yOf_1 : decode b_C_yOf 1 = .ok (.ldc2_w 9, 3) := by decide +kernel
theorem d_C_yOf_4 : decode b_C_yOf 4 = .ok (.lrem, 1) := by decide +kernel
theorem d_C_yOf_5 : decode b_C_yOf 5 = .ok (.lreturn, 1) := by decide +kernel
theorem d_C_toCode_0 : decode b_C_toCode 0 = .ok (.lload_n 0, 1) := by decide +kernel
theorem d_C_toCode_1 : decode b_C_toCode 1 = .ok (.lconst 0, 1) := by decide +kernel
theorem d_C_toCode_2 : decode b_C_toCode 2 = .ok (.lcmp, 1) := by decide +kernel
theorem d_C_toCode_3 : decode b_C_toCode 3 = .ok (.ifCond .ne 7, 3) := by decide +kernel
theorem d_C_toCode_6 : decode b_C_toCode 6 = .ok (.lconst 0, 1) := by decide +kernel
theorem d_C_toCode_7 : decode b_C_toCode 7 = .ok (.goto 21, 3) := by decide +kernel
theorem d_C_toCode_10 : decode b_C_toCode 10 = .ok (.ldc2_w 11, 3) := by decide +kernel
theorem d_C_toCode_13 : decode b_C_toCode 13 = .ok (.lload_n 0, 1) := by decide +kernel
theorem d_C_toCode_14 : decode b_C_toCode 14 = .ok (.ldc2_w 11, 3) := by decide +kernel
theorem d_C_toCode_17 : decode b_C_toCode 17 = .ok (.lrem, 1) := by decide +kernel
theorem d_C_toCode_18 : decode b_C_toCode 18 = .ok (.ladd, 1) := by decide +kernel
theorem d_C_toCode_19 : decode b_C_toCode 19 = .ok (.ldc2_w 9, 3) := by decide +kernel
theorem d_C_toCode_22 : decode b_C_toCode 22 = .ok (.lmul, 1) := by decide +kernel
theorem d_C_toCode_23 : decode b_C_toCode 23 = .ok (.lload_n 0, 1) := by decide +kernel
theorem d_C_toCode_24 : decode b_C_toCode 24 = .ok (.invokestatic 15, 3) := by decide +kernel
theorem d_C_toCode_27 : decode b_C_toCode 27 = .ok (.ladd, 1) := by decide +kernel
theorem d_C_toCode_28 : decode b_C_toCode 28 = .ok (.lreturn, 1) := by decide +kernel
theorem d_S_has_0 : decode b_S_has 0 = .ok (.lload_n 0, 1) := by decide +kernel
theorem d_S_has_1 : decode b_S_has 1 = .ok (.lconst 0, 1) := by decide +kernel
theorem d_S_has_2 : decode b_S_has 2 = .ok (.lcmp, 1) := by decide +kernel
theorem d_S_has_3 : decode b_S_has 3 = .ok (.ifCond .lt 15, 3) := by decide +kernel
theorem d_S_has_6 : decode b_S_has 6 = .ok (.lload_n 0, 1) := by decide +kernel
theorem d_S_has_7 : decode b_S_has 7 = .ok (.ldc2_w 9, 3) := by decide +kernel
theorem d_S_has_10 : decode b_S_has 10 = .ok (.lcmp, 1) := by decide +kernel
theorem d_S_has_11 : decode b_S_has 11 = .ok (.ifCond .ge 7, 3) := by decide +kernel
theorem d_S_has_14 : decode b_S_has 14 = .ok (.iconst 1, 1) := by decide +kernel
theorem d_S_has_15 : decode b_S_has 15 = .ok (.goto 4, 3) := by decide +kernel
theorem d_S_has_18 : decode b_S_has 18 = .ok (.iconst 0, 1) := by decide +kernel
theorem d_S_has_19 : decode b_S_has 19 = .ok (.ireturn, 1) := by decide +kernel
theorem d_I_weight_0 : decode b_I_weight 0 = .ok (.iload_n 2, 1) := by decide +kernel
theorem d_I_weight_1 : decode b_I_weight 1 = .ok (.ifCond .ne 7, 3) := by decide +kernel
theorem d_I_weight_4 : decode b_I_weight 4 = .ok (.lconst 1, 1) := by decide +kernel
theorem d_I_weight_5 : decode b_I_weight 5 = .ok (.goto 18, 3) := by decide +kernel
theorem d_I_weight_8 : decode b_I_weight 8 = .ok (.lconst 1, 1) := by decide +kernel
theorem d_I_weight_9 : decode b_I_weight 9 = .ok (.lload_n 0, 1) := by decide +kernel
theorem d_I_weight_10 : decode b_I_weight 10 = .ok (.iload_n 2, 1) := by decide +kernel
theorem d_I_weight_11 : decode b_I_weight 11 = .ok (.i2l, 1) := by decide +kernel
theorem d_I_weight_12 : decode b_I_weight 12 = .ok (.invokestatic 71, 3) := by decide +kernel
theorem d_I_weight_15 : decode b_I_weight 15 = .ok (.bipush 34, 2) := by decide +kernel
theorem d_I_weight_17 : decode b_I_weight 17 = .ok (.lushr, 1) := by decide +kernel
theorem d_I_weight_18 : decode b_I_weight 18 = .ok (.ldc2_w 74, 3) := by decide +kernel
theorem d_I_weight_21 : decode b_I_weight 21 = .ok (.lrem, 1) := by decide +kernel
theorem d_I_weight_22 : decode b_I_weight 22 = .ok (.ladd, 1) := by decide +kernel
theorem d_I_weight_23 : decode b_I_weight 23 = .ok (.lreturn, 1) := by decide +kernel
theorem d_K_mix_0 : decode b_K_mix 0 = .ok (.lload_n 0, 1) := by decide +kernel
theorem d_K_mix_1 : decode b_K_mix 1 = .ok (.ldc2_w 185, 3) := by decide +kernel
theorem d_K_mix_4 : decode b_K_mix 4 = .ok (.lxor, 1) := by decide +kernel
theorem d_K_mix_5 : decode b_K_mix 5 = .ok (.ldc2_w 187, 3) := by decide +kernel
theorem d_K_mix_8 : decode b_K_mix 8 = .ok (.lmul, 1) := by decide +kernel
theorem d_K_mix_9 : decode b_K_mix 9 = .ok (.lload_n 2, 1) := by decide +kernel
theorem d_K_mix_10 : decode b_K_mix 10 = .ok (.ladd, 1) := by decide +kernel
theorem d_K_mix_11 : decode b_K_mix 11 = .ok (.lstore 4, 2) := by decide +kernel
theorem d_K_mix_13 : decode b_K_mix 13 = .ok (.lload 4, 2) := by decide +kernel
theorem d_K_mix_15 : decode b_K_mix 15 = .ok (.lload 4, 2) := by decide +kernel
theorem d_K_mix_17 : decode b_K_mix 17 = .ok (.bipush 31, 2) := by decide +kernel
theorem d_K_mix_19 : decode b_K_mix 19 = .ok (.lushr, 1) := by decide +kernel
theorem d_K_mix_20 : decode b_K_mix 20 = .ok (.lxor, 1) := by decide +kernel
theorem d_K_mix_21 : decode b_K_mix 21 = .ok (.lstore 4, 2) := by decide +kernel
theorem d_K_mix_23 : decode b_K_mix 23 = .ok (.lload 4, 2) := by decide +kernel
theorem d_K_mix_25 : decode b_K_mix 25 = .ok (.ldc2_w 189, 3) := by decide +kernel
theorem d_K_mix_28 : decode b_K_mix 28 = .ok (.lmul, 1) := by decide +kernel
theorem d_K_mix_29 : decode b_K_mix 29 = .ok (.lstore 4, 2) := by decide +kernel
theorem d_K_mix_31 : decode b_K_mix 31 = .ok (.lload 4, 2) := by decide +kernel
theorem d_K_mix_33 : decode b_K_mix 33 = .ok (.lload 4, 2) := by decide +kernel
theorem d_K_mix_35 : decode b_K_mix 35 = .ok (.bipush 28, 2) := by decide +kernel
theorem d_K_mix_37 : decode b_K_mix 37 = .ok (.lushr, 1) := by decide +kernel
theorem d_K_mix_38 : decode b_K_mix 38 = .ok (.lxor, 1) := by decide +kernel
theorem d_K_mix_39 : decode b_K_mix 39 = .ok (.lreturn, 1) := by decide +kernel
theorem d_K_challenge_0 : decode b_K_challenge 0 = .ok (.lload_n 0, 1) := by decide +kernel
theorem d_K_challenge_1 : decode b_K_challenge 1 = .ok (.ldc2_w 110, 3) := by decide +kernel
theorem d_K_challenge_4 : decode b_K_challenge 4 = .ok (.lmul, 1) := by decide +kernel
theorem d_K_challenge_5 : decode b_K_challenge 5 = .ok (.lload_n 2, 1) := by decide +kernel
theorem d_K_challenge_6 : decode b_K_challenge 6 = .ok (.ladd, 1) := by decide +kernel
theorem d_K_challenge_7 : decode b_K_challenge 7 = .ok (.ldc2_w 193, 3) := by decide +kernel
theorem d_K_challenge_10 : decode b_K_challenge 10 = .ok (.invokestatic 95, 3) := by decide +kernel
theorem d_K_challenge_13 : decode b_K_challenge 13 = .ok (.lload 4, 2) := by decide +kernel
theorem d_K_challenge_15 : decode b_K_challenge 15 = .ok (.invokestatic 95, 3) := by decide +kernel
theorem d_K_challenge_18 : decode b_K_challenge 18 = .ok (.bipush 33, 2) := by decide +kernel
theorem d_K_challenge_20 : decode b_K_challenge 20 = .ok (.lushr, 1) := by decide +kernel
theorem d_K_challenge_21 : decode b_K_challenge 21 = .ok (.ldc2_w 101, 3) := by decide +kernel
theorem d_K_challenge_24 : decode b_K_challenge 24 = .ok (.lrem, 1) := by decide +kernel
theorem d_K_challenge_25 : decode b_K_challenge 25 = .ok (.lreturn, 1) := by decide +kernel
theorem d_C_sumOfMultiples_0 : decode b_C_sumOfMultiples 0 = .ok (.lload_n 0, 1) := by decide +kernel
theorem d_C_sumOfMultiples_1 : decode b_C_sumOfMultiples 1 = .ok (.lload_n 2, 1) := by decide +kernel
theorem d_C_sumOfMultiples_2 : decode b_C_sumOfMultiples 2 = .ok (.invokestatic 57, 3) := by decide +kernel
theorem d_C_sumOfMultiples_5 : decode b_C_sumOfMultiples 5 = .ok (.lload 4, 2) := by decide +kernel
theorem d_C_sumOfMultiples_7 : decode b_C_sumOfMultiples 7 = .ok (.lload 6, 2) := by decide +kernel
theorem d_C_sumOfMultiples_9 : decode b_C_sumOfMultiples 9 = .ok (.invokestatic 57, 3) := by decide +kernel
theorem d_C_sumOfMultiples_12 : decode b_C_sumOfMultiples 12 = .ok (.invokestatic 54, 3) := by decide +kernel
theorem d_C_sumOfMultiples_15 : decode b_C_sumOfMultiples 15 = .ok (.lreturn, 1) := by decide +kernel
theorem d_C_multiple_0 : decode b_C_multiple 0 = .ok (.lconst 0, 1) := by decide +kernel
theorem d_C_multiple_1 : decode b_C_multiple 1 = .ok (.lstore 4, 2) := by decide +kernel
theorem d_C_multiple_3 : decode b_C_multiple 3 = .ok (.bipush 29, 2) := by decide +kernel
theorem d_C_multiple_5 : decode b_C_multiple 5 = .ok (.istore 6, 2) := by decide +kernel
theorem d_C_multiple_7 : decode b_C_multiple 7 = .ok (.iload 6, 2) := by decide +kernel
theorem d_C_multiple_9 : decode b_C_multiple 9 = .ok (.ifCond .lt 37, 3) := by decide +kernel
theorem d_C_multiple_12 : decode b_C_multiple 12 = .ok (.lload 4, 2) := by decide +kernel
theorem d_C_multiple_14 : decode b_C_multiple 14 = .ok (.lload 4, 2) := by decide +kernel
theorem d_C_multiple_16 : decode b_C_multiple 16 = .ok (.invokestatic 54, 3) := by decide +kernel
theorem d_C_multiple_19 : decode b_C_multiple 19 = .ok (.lstore 4, 2) := by decide +kernel
theorem d_C_multiple_21 : decode b_C_multiple 21 = .ok (.lload_n 0, 1) := by decide +kernel
theorem d_C_multiple_22 : decode b_C_multiple 22 = .ok (.iload 6, 2) := by decide +kernel
theorem d_C_multiple_24 : decode b_C_multiple 24 = .ok (.lushr, 1) := by decide +kernel
theorem d_C_multiple_25 : decode b_C_multiple 25 = .ok (.lconst 1, 1) := by decide +kernel
theorem d_C_multiple_26 : decode b_C_multiple 26 = .ok (.land, 1) := by decide +kernel
theorem d_C_multiple_27 : decode b_C_multiple 27 = .ok (.lconst 1, 1) := by decide +kernel
theorem d_C_multiple_28 : decode b_C_multiple 28 = .ok (.lcmp, 1) := by decide +kernel
theorem d_C_multiple_29 : decode b_C_multiple 29 = .ok (.ifCond .ne 11, 3) := by decide +kernel
theorem d_C_multiple_32 : decode b_C_multiple 32 = .ok (.lload 4, 2) := by decide +kernel
theorem d_C_multiple_34 : decode b_C_multiple 34 = .ok (.lload_n 2, 1) := by decide +kernel
theorem d_C_multiple_35 : decode b_C_multiple 35 = .ok (.invokestatic 54, 3) := by decide +kernel
theorem d_C_multiple_38 : decode b_C_multiple 38 = .ok (.lstore 4, 2) := by decide +kernel
theorem d_C_multiple_40 : decode b_C_multiple 40 = .ok (.iinc 6 (-1), 3) := by decide +kernel
theorem d_C_multiple_43 : decode b_C_multiple 43 = .ok (.goto (-36), 3) := by decide +kernel
theorem d_C_multiple_46 : decode b_C_multiple 46 = .ok (.lload 4, 2) := by decide +kernel
theorem d_C_multiple_48 : decode b_C_multiple 48 = .ok (.lreturn, 1) := by decide +kernel
theorem d_C_sum_0 : decode b_C_sum 0 = .ok (.lload_n 0, 1) := by decide +kernel
theorem d_C_sum_1 : decode b_C_sum 1 = .ok (.lconst 0, 1) := by decide +kernel
theorem d_C_sum_2 : decode b_C_sum 2 = .ok (.lcmp, 1) := by decide +kernel
theorem d_C_sum_3 : decode b_C_sum 3 = .ok (.ifCond .ne 5, 3) := by decide +kernel
theorem d_C_sum_6 : decode b_C_sum 6 = .ok (.lload_n 2, 1) := by decide +kernel
theorem d_C_sum_7 : decode b_C_sum 7 = .ok (.lreturn, 1) := by decide +kernel
theorem d_C_sum_8 : decode b_C_sum 8 = .ok (.lload_n 2, 1) := by decide +kernel
theorem d_C_sum_9 : decode b_C_sum 9 = .ok (.lconst 0, 1) := by decide +kernel
theorem d_C_sum_10 : decode b_C_sum 10 = .ok (.lcmp, 1) := by decide +kernel
theorem d_C_sum_11 : decode b_C_sum 11 = .ok (.ifCond .ne 5, 3) := by decide +kernel
theorem d_C_sum_14 : decode b_C_sum 14 = .ok (.lload_n 0, 1) := by decide +kernel
theorem d_C_sum_15 : decode b_C_sum 15 = .ok (.lreturn, 1) := by decide +kernel
theorem d_C_sum_16 : decode b_C_sum 16 = .ok (.lload_n 0, 1) := by decide +kernel
theorem d_C_sum_17 : decode b_C_sum 17 = .ok (.invokestatic 15, 3) := by decide +kernel
theorem d_C_sum_20 : decode b_C_sum 20 = .ok (.lstore 4, 2) := by decide +kernel
theorem d_C_sum_22 : decode b_C_sum 22 = .ok (.lload_n 0, 1) := by decide +kernel
theorem d_C_sum_23 : decode b_C_sum 23 = .ok (.invokestatic 23, 3) := by decide +kernel
theorem d_C_sum_26 : decode b_C_sum 26 = .ok (.lstore 6, 2) := by decide +kernel
theorem d_C_sum_28 : decode b_C_sum 28 = .ok (.lload_n 2, 1) := by decide +kernel
theorem d_C_sum_29 : decode b_C_sum 29 = .ok (.invokestatic 15, 3) := by decide +kernel
theorem d_C_sum_32 : decode b_C_sum 32 = .ok (.lstore 8, 2) := by decide +kernel
theorem d_C_sum_34 : decode b_C_sum 34 = .ok (.lload 4, 2) := by decide +kernel
theorem d_C_sum_36 : decode b_C_sum 36 = .ok (.lload 8, 2) := by decide +kernel
theorem d_C_sum_38 : decode b_C_sum 38 = .ok (.lcmp, 1) := by decide +kernel
theorem d_C_sum_39 : decode b_C_sum 39 = .ok (.ifCond .ne 11, 3) := by decide +kernel
theorem d_C_sum_42 : decode b_C_sum 42 = .ok (.lload_n 0, 1) := by decide +kernel
theorem d_C_sum_43 : decode b_C_sum 43 = .ok (.lload_n 2, 1) := by decide +kernel
theorem d_C_sum_44 : decode b_C_sum 44 = .ok (.lcmp, 1) := by decide +kernel
theorem d_C_sum_45 : decode b_C_sum 45 = .ok (.ifCond .eq 5, 3) := by decide +kernel
theorem d_C_sum_48 : decode b_C_sum 48 = .ok (.lconst 0, 1) := by decide +kernel
theorem d_C_sum_49 : decode b_C_sum 49 = .ok (.lreturn, 1) := by decide +kernel
theorem d_C_sum_50 : decode b_C_sum 50 = .ok (.lload_n 0, 1) := by decide +kernel
theorem d_C_sum_51 : decode b_C_sum 51 = .ok (.lload_n 2, 1) := by decide +kernel
theorem d_C_sum_52 : decode b_C_sum 52 = .ok (.lcmp, 1) := by decide +kernel
theorem d_C_sum_53 : decode b_C_sum 53 = .ok (.ifCond .ne 24, 3) := by decide +kernel
theorem d_C_sum_56 : decode b_C_sum 56 = .ok (.ldc2_w 41, 3) := by decide +kernel
theorem d_C_sum_59 : decode b_C_sum 59 = .ok (.lload 4, 2) := by decide +kernel
theorem d_C_sum_61 : decode b_C_sum 61 = .ok (.lmul, 1) := by decide +kernel
theorem d_C_sum_62 : decode b_C_sum 62 = .ok (.lload 4, 2) := by decide +kernel
theorem d_C_sum_64 : decode b_C_sum 64 = .ok (.lmul, 1) := by decide +kernel
theorem d_C_sum_65 : decode b_C_sum 65 = .ok (.ldc2_w 11, 3) := by decide +kernel
theorem d_C_sum_68 : decode b_C_sum 68 = .ok (.lload 6, 2) := by decide +kernel
theorem d_C_sum_70 : decode b_C_sum 70 = .ok (.lmul, 1) := by decide +kernel
theorem d_C_sum_71 : decode b_C_sum 71 = .ok (.invokestatic 47, 3) := by decide +kernel
theorem d_C_sum_74 : decode b_C_sum 74 = .ok (.goto 18, 3) := by decide +kernel
theorem d_C_sum_77 : decode b_C_sum 77 = .ok (.lload_n 2, 1) := by decide +kernel
theorem d_C_sum_78 : decode b_C_sum 78 = .ok (.invokestatic 23, 3) := by decide +kernel
theorem d_C_sum_81 : decode b_C_sum 81 = .ok (.lload 6, 2) := by decide +kernel
theorem d_C_sum_83 : decode b_C_sum 83 = .ok (.lsub, 1) := by decide +kernel
theorem d_C_sum_84 : decode b_C_sum 84 = .ok (.lload 8, 2) := by decide +kernel
theorem d_C_sum_86 : decode b_C_sum 86 = .ok (.lload 4, 2) := by decide +kernel
theorem d_C_sum_88 : decode b_C_sum 88 = .ok (.lsub, 1) := by decide +kernel
theorem d_C_sum_89 : decode b_C_sum 89 = .ok (.invokestatic 47, 3) := by decide +kernel
theorem d_C_sum_92 : decode b_C_sum 92 = .ok (.lstore 10, 2) := by decide +kernel
theorem d_C_sum_94 : decode b_C_sum 94 = .ok (.lload 10, 2) := by decide +kernel
theorem d_C_sum_96 : decode b_C_sum 96 = .ok (.lload 10, 2) := by decide +kernel
theorem d_C_sum_98 : decode b_C_sum 98 = .ok (.lmul, 1) := by decide +kernel
theorem d_C_sum_99 : decode b_C_sum 99 = .ok (.lload 4, 2) := by decide +kernel
theorem d_C_sum_101 : decode b_C_sum 101 = .ok (.lsub, 1) := by decide +kernel
theorem d_C_sum_102 : decode b_C_sum 102 = .ok (.lload 8, 2) := by decide +kernel
theorem d_C_sum_104 : decode b_C_sum 104 = .ok (.lsub, 1) := by decide +kernel
theorem d_C_sum_105 : decode b_C_sum 105 = .ok (.invokestatic 51, 3) := by decide +kernel
theorem d_C_sum_108 : decode b_C_sum 108 = .ok (.lstore 12, 2) := by decide +kernel
theorem d_C_sum_110 : decode b_C_sum 110 = .ok (.lload 12, 2) := by decide +kernel
theorem d_C_sum_112 : decode b_C_sum 112 = .ok (.ldc2_w 9, 3) := by decide +kernel
theorem d_C_sum_115 : decode b_C_sum 115 = .ok (.lmul, 1) := by decide +kernel
theorem d_C_sum_116 : decode b_C_sum 116 = .ok (.lload 10, 2) := by decide +kernel
theorem d_C_sum_118 : decode b_C_sum 118 = .ok (.lload 4, 2) := by decide +kernel
theorem d_C_sum_120 : decode b_C_sum 120 = .ok (.lload 12, 2) := by decide +kernel
theorem d_C_sum_122 : decode b_C_sum 122 = .ok (.lsub, 1) := by decide +kernel
theorem d_C_sum_123 : decode b_C_sum 123 = .ok (.lmul, 1) := by decide +kernel
theorem d_C_sum_124 : decode b_C_sum 124 = .ok (.lload 6, 2) := by decide +kernel
theorem d_C_sum_126 : decode b_C_sum 126 = .ok (.lsub, 1) := by decide +kernel
theorem d_C_sum_127 : decode b_C_sum 127 = .ok (.invokestatic 51, 3) := by decide +kernel
theorem d_C_sum_130 : decode b_C_sum 130 = .ok (.ladd, 1) := by decide +kernel
theorem d_C_sum_131 : decode b_C_sum 131 = .ok (.lreturn, 1) := by decide +kernel
theorem d_F_quotient_0 : decode b_F_quotient 0 = .ok (.lload_n 0, 1) := by decide +kernel
theorem d_F_quotient_1 : decode b_F_quotient 1 = .ok (.invokestatic 11, 3) := by decide +kernel
theorem d_F_quotient_4 : decode b_F_quotient 4 = .ok (.lload_n 2, 1) := by decide +kernel
theorem d_F_quotient_5 : decode b_F_quotient 5 = .ok (.invokestatic 11, 3) := by decide +kernel
theorem d_F_quotient_8 : decode b_F_quotient 8 = .ok (.ldc2_w 9, 3) := by decide +kernel
theorem d_F_quotient_11 : decode b_F_quotient 11 = .ok (.invokestatic 15, 3) := by decide +kernel
theorem d_F_quotient_14 : decode b_F_quotient 14 = .ok (.lmul, 1) := by decide +kernel
theorem d_F_quotient_15 : decode b_F_quotient 15 = .ok (.ldc2_w 9, 3) := by decide +kernel
theorem d_F_quotient_18 : decode b_F_quotient 18 = .ok (.lrem, 1) := by decide +kernel
theorem d_F_quotient_19 : decode b_F_quotient 19 = .ok (.lreturn, 1) := by decide +kernel
theorem d_F_reduced_0 : decode b_F_reduced 0 = .ok (.lload_n 0, 1) := by decide +kernel
theorem d_F_reduced_1 : decode b_F_reduced 1 = .ok (.ldc2_w 9, 3) := by decide +kernel
theorem d_F_reduced_4 : decode b_F_reduced 4 = .ok (.lrem, 1) := by decide +kernel
theorem d_F_reduced_5 : decode b_F_reduced 5 = .ok (.lstore_n 2, 1) := by decide +kernel
theorem d_F_reduced_6 : decode b_F_reduced 6 = .ok (.lload_n 2, 1) := by decide +kernel
theorem d_F_reduced_7 : decode b_F_reduced 7 = .ok (.lconst 0, 1) := by decide +kernel
theorem d_F_reduced_8 : decode b_F_reduced 8 = .ok (.lcmp, 1) := by decide +kernel
theorem d_F_reduced_9 : decode b_F_reduced 9 = .ok (.ifCond .ge 11, 3) := by decide +kernel
theorem d_F_reduced_12 : decode b_F_reduced 12 = .ok (.lload_n 2, 1) := by decide +kernel
theorem d_F_reduced_13 : decode b_F_reduced 13 = .ok (.ldc2_w 9, 3) := by decide +kernel
theorem d_F_reduced_16 : decode b_F_reduced 16 = .ok (.ladd, 1) := by decide +kernel
theorem d_F_reduced_17 : decode b_F_reduced 17 = .ok (.goto 4, 3) := by decide +kernel
theorem d_F_reduced_20 : decode b_F_reduced 20 = .ok (.lload_n 2, 1) := by decide +kernel
theorem d_F_reduced_21 : decode b_F_reduced 21 = .ok (.lreturn, 1) := by decide +kernel
theorem d_K_inverse_0 : decode b_K_inverse 0 = .ok (.lload_n 2, 1) := by decide +kernel
theorem d_K_inverse_1 : decode b_K_inverse 1 = .ok (.lstore 4, 2) := by decide +kernel
theorem d_K_inverse_3 : decode b_K_inverse 3 = .ok (.lload_n 0, 1) := by decide +kernel
theorem d_K_inverse_4 : decode b_K_inverse 4 = .ok (.lstore 6, 2) := by decide +kernel
theorem d_K_inverse_6 : decode b_K_inverse 6 = .ok (.lconst 0, 1) := by decide +kernel
theorem d_K_inverse_7 : decode b_K_inverse 7 = .ok (.lstore 8, 2) := by decide +kernel
theorem d_K_inverse_9 : decode b_K_inverse 9 = .ok (.lconst 1, 1) := by decide +kernel
theorem d_K_inverse_10 : decode b_K_inverse 10 = .ok (.lstore 10, 2) := by decide +kernel
theorem d_K_inverse_12 : decode b_K_inverse 12 = .ok (.iconst 0, 1) := by decide +kernel
theorem d_K_inverse_13 : decode b_K_inverse 13 = .ok (.istore 12, 2) := by decide +kernel
theorem d_K_inverse_15 : decode b_K_inverse 15 = .ok (.iload 12, 2) := by decide +kernel
theorem d_K_inverse_17 : decode b_K_inverse 17 = .ok (.bipush 64, 2) := by decide +kernel
theorem d_K_inverse_19 : decode b_K_inverse 19 = .ok (.if_icmp .ge 59, 3) := by decide +kernel
theorem d_K_inverse_22 : decode b_K_inverse 22 = .ok (.lload 6, 2) := by decide +kernel
theorem d_K_inverse_24 : decode b_K_inverse 24 = .ok (.lconst 0, 1) := by decide +kernel
theorem d_K_inverse_25 : decode b_K_inverse 25 = .ok (.lcmp, 1) := by decide +kernel
theorem d_K_inverse_26 : decode b_K_inverse 26 = .ok (.ifCond .eq 52, 3) := by decide +kernel
theorem d_K_inverse_29 : decode b_K_inverse 29 = .ok (.lload 4, 2) := by decide +kernel
theorem d_K_inverse_31 : decode b_K_inverse 31 = .ok (.lload 6, 2) := by decide +kernel
theorem d_K_inverse_33 : decode b_K_inverse 33 = .ok (.ldiv, 1) := by decide +kernel
theorem d_K_inverse_34 : decode b_K_inverse 34 = .ok (.lstore 13, 2) := by decide +kernel
theorem d_K_inverse_36 : decode b_K_inverse 36 = .ok (.lload 4, 2) := by decide +kernel
theorem d_K_inverse_38 : decode b_K_inverse 38 = .ok (.lload 13, 2) := by decide +kernel
theorem d_K_inverse_40 : decode b_K_inverse 40 = .ok (.lload 6, 2) := by decide +kernel
theorem d_K_inverse_42 : decode b_K_inverse 42 = .ok (.lmul, 1) := by decide +kernel
theorem d_K_inverse_43 : decode b_K_inverse 43 = .ok (.lsub, 1) := by decide +kernel
theorem d_K_inverse_44 : decode b_K_inverse 44 = .ok (.lstore 15, 2) := by decide +kernel
theorem d_K_inverse_46 : decode b_K_inverse 46 = .ok (.lload 8, 2) := by decide +kernel
theorem d_K_inverse_48 : decode b_K_inverse 48 = .ok (.lload 13, 2) := by decide +kernel
theorem d_K_inverse_50 : decode b_K_inverse 50 = .ok (.lload 10, 2) := by decide +kernel
theorem d_K_inverse_52 : decode b_K_inverse 52 = .ok (.lmul, 1) := by decide +kernel
theorem d_K_inverse_53 : decode b_K_inverse 53 = .ok (.lsub, 1) := by decide +kernel
theorem d_K_inverse_54 : decode b_K_inverse 54 = .ok (.lstore 17, 2) := by decide +kernel
theorem d_K_inverse_56 : decode b_K_inverse 56 = .ok (.lload 6, 2) := by decide +kernel
theorem d_K_inverse_58 : decode b_K_inverse 58 = .ok (.lstore 4, 2) := by decide +kernel
theorem d_K_inverse_60 : decode b_K_inverse 60 = .ok (.lload 15, 2) := by decide +kernel
theorem d_K_inverse_62 : decode b_K_inverse 62 = .ok (.lstore 6, 2) := by decide +kernel
theorem d_K_inverse_64 : decode b_K_inverse 64 = .ok (.lload 10, 2) := by decide +kernel
theorem d_K_inverse_66 : decode b_K_inverse 66 = .ok (.lstore 8, 2) := by decide +kernel
theorem d_K_inverse_68 : decode b_K_inverse 68 = .ok (.lload 17, 2) := by decide +kernel
theorem d_K_inverse_70 : decode b_K_inverse 70 = .ok (.lstore 10, 2) := by decide +kernel
theorem d_K_inverse_72 : decode b_K_inverse 72 = .ok (.iinc 12 1, 3) := by decide +kernel
theorem d_K_inverse_75 : decode b_K_inverse 75 = .ok (.goto (-60), 3) := by decide +kernel
theorem d_K_inverse_78 : decode b_K_inverse 78 = .ok (.lload 8, 2) := by decide +kernel
theorem d_K_inverse_80 : decode b_K_inverse 80 = .ok (.lconst 0, 1) := by decide +kernel
theorem d_K_inverse_81 : decode b_K_inverse 81 = .ok (.lcmp, 1) := by decide +kernel
theorem d_K_inverse_82 : decode b_K_inverse 82 = .ok (.ifCond .ge 10, 3) := by decide +kernel
theorem d_K_inverse_85 : decode b_K_inverse 85 = .ok (.lload 8, 2) := by decide +kernel
theorem d_K_inverse_87 : decode b_K_inverse 87 = .ok (.lload_n 2, 1) := by decide +kernel
theorem d_K_inverse_88 : decode b_K_inverse 88 = .ok (.ladd, 1) := by decide +kernel
theorem d_K_inverse_89 : decode b_K_inverse 89 = .ok (.goto 5, 3) := by decide +kernel
theorem d_K_inverse_92 : decode b_K_inverse 92 = .ok (.lload 8, 2) := by decide +kernel
theorem d_K_inverse_94 : decode b_K_inverse 94 = .ok (.lreturn, 1) := by decide +kernel
theorem d_O_length_0 : decode b_O_length 0 = .ok (.bipush 6, 2) := by decide +kernel
theorem d_O_length_2 : decode b_O_length 2 = .ok (.iload_n 0, 1) := by decide +kernel
theorem d_O_length_3 : decode b_O_length 3 = .ok (.invokestatic 11, 3) := by decide +kernel
theorem d_O_length_6 : decode b_O_length 6 = .ok (.iadd, 1) := by decide +kernel
theorem d_O_length_7 : decode b_O_length 7 = .ok (.iload_n 1, 1) := by decide +kernel
theorem d_O_length_8 : decode b_O_length 8 = .ok (.invokestatic 11, 3) := by decide +kernel
theorem d_O_length_11 : decode b_O_length 11 = .ok (.iadd, 1) := by decide +kernel
theorem d_O_length_12 : decode b_O_length 12 = .ok (.ireturn, 1) := by decide +kernel
theorem d_O_bytesOf_0 : decode b_O_bytesOf 0 = .ok (.iload_n 0, 1) := by decide +kernel
theorem d_O_bytesOf_1 : decode b_O_bytesOf 1 = .ok (.sipush 128, 3) := by decide +kernel
theorem d_O_bytesOf_4 : decode b_O_bytesOf 4 = .ok (.if_icmp .ge 5, 3) := by decide +kernel
theorem d_O_bytesOf_7 : decode b_O_bytesOf 7 = .ok (.iconst 1, 1) := by decide +kernel
theorem d_O_bytesOf_8 : decode b_O_bytesOf 8 = .ok (.ireturn, 1) := by decide +kernel
theorem d_O_bytesOf_9 : decode b_O_bytesOf 9 = .ok (.iload_n 0, 1) := by decide +kernel
theorem d_O_bytesOf_10 : decode b_O_bytesOf 10 = .ok (.ldc 7, 2) := by decide +kernel
theorem d_O_bytesOf_12 : decode b_O_bytesOf 12 = .ok (.if_icmp .ge 5, 3) := by decide +kernel
theorem d_O_bytesOf_15 : decode b_O_bytesOf 15 = .ok (.iconst 2, 1) := by decide +kernel
theorem d_O_bytesOf_16 : decode b_O_bytesOf 16 = .ok (.ireturn, 1) := by decide +kernel
theorem d_O_bytesOf_17 : decode b_O_bytesOf 17 = .ok (.iload_n 0, 1) := by decide +kernel
theorem d_O_bytesOf_18 : decode b_O_bytesOf 18 = .ok (.ldc 8, 2) := by decide +kernel
theorem d_O_bytesOf_20 : decode b_O_bytesOf 20 = .ok (.if_icmp .ge 7, 3) := by decide +kernel
theorem d_O_bytesOf_23 : decode b_O_bytesOf 23 = .ok (.iconst 3, 1) := by decide +kernel
theorem d_O_bytesOf_24 : decode b_O_bytesOf 24 = .ok (.goto 4, 3) := by decide +kernel
theorem d_O_bytesOf_27 : decode b_O_bytesOf 27 = .ok (.iconst 4, 1) := by decide +kernel
theorem d_O_bytesOf_28 : decode b_O_bytesOf 28 = .ok (.ireturn, 1) := by decide +kernel
theorem d_O_byteAt_0 : decode b_O_byteAt 0 = .ok (.iload_n 2, 1) := by decide +kernel
theorem d_O_byteAt_1 : decode b_O_byteAt 1 = .ok (.ifCond .ne 6, 3) := by decide +kernel
theorem d_O_byteAt_4 : decode b_O_byteAt 4 = .ok (.bipush 48, 2) := by decide +kernel
theorem d_O_byteAt_6 : decode b_O_byteAt 6 = .ok (.ireturn, 1) := by decide +kernel
theorem d_O_byteAt_7 : decode b_O_byteAt 7 = .ok (.iload_n 2, 1) := by decide +kernel
theorem d_O_byteAt_8 : decode b_O_byteAt 8 = .ok (.iconst 1, 1) := by decide +kernel
theorem d_O_byteAt_9 : decode b_O_byteAt 9 = .ok (.if_icmp .ne 11, 3) := by decide +kernel
theorem d_O_byteAt_12 : decode b_O_byteAt 12 = .ok (.iload_n 0, 1) := by decide +kernel
theorem d_O_byteAt_13 : decode b_O_byteAt 13 = .ok (.iload_n 1, 1) := by decide +kernel
theorem d_O_byteAt_14 : decode b_O_byteAt 14 = .ok (.invokestatic 15, 3) := by decide +kernel
theorem d_O_byteAt_17 : decode b_O_byteAt 17 = .ok (.iconst 2, 1) := by decide +kernel
theorem d_O_byteAt_18 : decode b_O_byteAt 18 = .ok (.isub, 1) := by decide +kernel
theorem d_O_byteAt_19 : decode b_O_byteAt 19 = .ok (.ireturn, 1) := by decide +kernel
theorem d_O_byteAt_20 : decode b_O_byteAt 20 = .ok (.iconst 4, 1) := by decide +kernel
theorem d_O_byteAt_21 : decode b_O_byteAt 21 = .ok (.iload_n 0, 1) := by decide +kernel
theorem d_O_byteAt_22 : decode b_O_byteAt 22 = .ok (.invokestatic 11, 3) := by decide +kernel
theorem d_O_byteAt_25 : decode b_O_byteAt 25 = .ok (.iadd, 1) := by decide +kernel
theorem d_O_byteAt_26 : decode b_O_byteAt 26 = .ok (.istore_n 3, 1) := by decide +kernel
theorem d_O_byteAt_27 : decode b_O_byteAt 27 = .ok (.iload_n 2, 1) := by decide +kernel
theorem d_O_byteAt_28 : decode b_O_byteAt 28 = .ok (.iload_n 3, 1) := by decide +kernel
theorem d_O_byteAt_29 : decode b_O_byteAt 29 = .ok (.if_icmp .ge 13, 3) := by decide +kernel
theorem d_O_byteAt_32 : decode b_O_byteAt 32 = .ok (.iload_n 0, 1) := by decide +kernel
theorem d_O_byteAt_33 : decode b_O_byteAt 33 = .ok (.iload_n 2, 1) := by decide +kernel
theorem d_O_byteAt_34 : decode b_O_byteAt 34 = .ok (.iconst 2, 1) := by decide +kernel
theorem d_O_byteAt_35 : decode b_O_byteAt 35 = .ok (.isub, 1) := by decide +kernel
theorem d_O_byteAt_36 : decode b_O_byteAt 36 = .ok (.invokestatic 19, 3) := by decide +kernel
theorem d_O_byteAt_39 : decode b_O_byteAt 39 = .ok (.goto 10, 3) := by decide +kernel
theorem d_O_byteAt_42 : decode b_O_byteAt 42 = .ok (.iload_n 1, 1) := by decide +kernel
theorem d_O_byteAt_43 : decode b_O_byteAt 43 = .ok (.iload_n 2, 1) := by decide +kernel
theorem d_O_byteAt_44 : decode b_O_byteAt 44 = .ok (.iload_n 3, 1) := by decide +kernel
theorem d_O_byteAt_45 : decode b_O_byteAt 45 = .ok (.isub, 1) := by decide +kernel
theorem d_O_byteAt_46 : decode b_O_byteAt 46 = .ok (.invokestatic 19, 3) := by decide +kernel
theorem d_O_byteAt_49 : decode b_O_byteAt 49 = .ok (.ireturn, 1) := by decide +kernel
theorem d_O_numberByteAt_0 : decode b_O_numberByteAt 0 = .ok (.iload_n 1, 1) := by decide +kernel
theorem d_O_numberByteAt_1 : decode b_O_numberByteAt 1 = .ok (.ifCond .ne 5, 3) := by decide +kernel
theorem d_O_numberByteAt_4 : decode b_O_numberByteAt 4 = .ok (.iconst 2, 1) := by decide +kernel
theorem d_O_numberByteAt_5 : decode b_O_numberByteAt 5 = .ok (.ireturn, 1) := by decide +kernel
theorem d_O_numberByteAt_6 : decode b_O_numberByteAt 6 = .ok (.iload_n 0, 1) := by decide +kernel
theorem d_O_numberByteAt_7 : decode b_O_numberByteAt 7 = .ok (.invokestatic 11, 3) := by decide +kernel
theorem d_O_numberByteAt_10 : decode b_O_numberByteAt 10 = .ok (.istore_n 2, 1) := by decide +kernel
theorem d_O_numberByteAt_11 : decode b_O_numberByteAt 11 = .ok (.iload_n 1, 1) := by decide +kernel
theorem d_O_numberByteAt_12 : decode b_O_numberByteAt 12 = .ok (.iconst 1, 1) := by decide +kernel
theorem d_O_numberByteAt_13 : decode b_O_numberByteAt 13 = .ok (.if_icmp .ne 7, 3) := by decide +kernel
theorem d_O_numberByteAt_16 : decode b_O_numberByteAt 16 = .ok (.iload_n 2, 1) := by decide +kernel
theorem d_O_numberByteAt_17 : decode b_O_numberByteAt 17 = .ok (.goto 17, 3) := by decide +kernel
theorem d_O_numberByteAt_20 : decode b_O_numberByteAt 20 = .ok (.iload_n 0, 1) := by decide +kernel
theorem d_O_numberByteAt_21 : decode b_O_numberByteAt 21 = .ok (.bipush 8, 2) := by decide +kernel
theorem d_O_numberByteAt_23 : decode b_O_numberByteAt 23 = .ok (.iload_n 2, 1) := by decide +kernel
theorem d_O_numberByteAt_24 : decode b_O_numberByteAt 24 = .ok (.iconst 1, 1) := by decide +kernel
theorem d_O_numberByteAt_25 : decode b_O_numberByteAt 25 = .ok (.iadd, 1) := by decide +kernel
theorem d_O_numberByteAt_26 : decode b_O_numberByteAt 26 = .ok (.iload_n 1, 1) := by decide +kernel
theorem d_O_numberByteAt_27 : decode b_O_numberByteAt 27 = .ok (.isub, 1) := by decide +kernel
theorem d_O_numberByteAt_28 : decode b_O_numberByteAt 28 = .ok (.imul, 1) := by decide +kernel
theorem d_O_numberByteAt_29 : decode b_O_numberByteAt 29 = .ok (.iushr, 1) := by decide +kernel
theorem d_O_numberByteAt_30 : decode b_O_numberByteAt 30 = .ok (.sipush 255, 3) := by decide +kernel
theorem d_O_numberByteAt_33 : decode b_O_numberByteAt 33 = .ok (.iand, 1) := by decide +kernel
theorem d_O_numberByteAt_34 : decode b_O_numberByteAt 34 = .ok (.ireturn, 1) := by decide +kernel
theorem d_S_isUnit_0 : decode b_S_isUnit 0 = .ok (.lload_n 0, 1) := by decide +kernel
theorem d_S_isUnit_1 : decode b_S_isUnit 1 = .ok (.lconst 1, 1) := by decide +kernel
theorem d_S_isUnit_2 : decode b_S_isUnit 2 = .ok (.lcmp, 1) := by decide +kernel
theorem d_S_isUnit_3 : decode b_S_isUnit 3 = .ok (.ifCond .lt 15, 3) := by decide +kernel
theorem d_S_isUnit_6 : decode b_S_isUnit 6 = .ok (.lload_n 0, 1) := by decide +kernel
theorem d_S_isUnit_7 : decode b_S_isUnit 7 = .ok (.ldc2_w 9, 3) := by decide +kernel
theorem d_S_isUnit_10 : decode b_S_isUnit 10 = .ok (.lcmp, 1) := by decide +kernel
theorem d_S_isUnit_11 : decode b_S_isUnit 11 = .ok (.ifCond .ge 7, 3) := by decide +kernel
theorem d_S_isUnit_14 : decode b_S_isUnit 14 = .ok (.iconst 1, 1) := by decide +kernel
theorem d_S_isUnit_15 : decode b_S_isUnit 15 = .ok (.goto 4, 3) := by decide +kernel
theorem d_S_isUnit_18 : decode b_S_isUnit 18 = .ok (.iconst 0, 1) := by decide +kernel
theorem d_S_isUnit_19 : decode b_S_isUnit 19 = .ok (.ireturn, 1) := by decide +kernel
theorem d_C_fromCode_0 : decode b_C_fromCode 0 = .ok (.lload_n 0, 1) := by decide +kernel
theorem d_C_fromCode_1 : decode b_C_fromCode 1 = .ok (.bipush 32, 2) := by decide +kernel
theorem d_C_fromCode_3 : decode b_C_fromCode 3 = .ok (.lushr, 1) := by decide +kernel
theorem d_C_fromCode_4 : decode b_C_fromCode 4 = .ok (.lstore_n 2, 1) := by decide +kernel
theorem d_C_fromCode_5 : decode b_C_fromCode 5 = .ok (.lload_n 2, 1) := by decide +kernel
theorem d_C_fromCode_6 : decode b_C_fromCode 6 = .ok (.ldc2_w 11, 3) := by decide +kernel
theorem d_C_fromCode_9 : decode b_C_fromCode 9 = .ok (.lcmp, 1) := by decide +kernel
theorem d_C_fromCode_10 : decode b_C_fromCode 10 = .ok (.ifCond .eq 11, 3) := by decide +kernel
theorem d_C_fromCode_13 : decode b_C_fromCode 13 = .ok (.lload_n 2, 1) := by decide +kernel
theorem d_C_fromCode_14 : decode b_C_fromCode 14 = .ok (.ldc2_w 41, 3) := by decide +kernel
theorem d_C_fromCode_17 : decode b_C_fromCode 17 = .ok (.lcmp, 1) := by decide +kernel
theorem d_C_fromCode_18 : decode b_C_fromCode 18 = .ok (.ifCond .ne 27, 3) := by decide +kernel
theorem d_C_fromCode_21 : decode b_C_fromCode 21 = .ok (.lload_n 0, 1) := by decide +kernel
theorem d_C_fromCode_22 : decode b_C_fromCode 22 = .ok (.ldc2_w 9, 3) := by decide +kernel
theorem d_C_fromCode_25 : decode b_C_fromCode 25 = .ok (.lrem, 1) := by decide +kernel
theorem d_C_fromCode_26 : decode b_C_fromCode 26 = .ok (.lload_n 2, 1) := by decide +kernel
theorem d_C_fromCode_27 : decode b_C_fromCode 27 = .ok (.ldc2_w 41, 3) := by decide +kernel
theorem d_C_fromCode_30 : decode b_C_fromCode 30 = .ok (.lcmp, 1) := by decide +kernel
theorem d_C_fromCode_31 : decode b_C_fromCode 31 = .ok (.ifCond .ne 7, 3) := by decide +kernel
theorem d_C_fromCode_34 : decode b_C_fromCode 34 = .ok (.iconst 1, 1) := by decide +kernel
theorem d_C_fromCode_35 : decode b_C_fromCode 35 = .ok (.goto 4, 3) := by decide +kernel
theorem d_C_fromCode_38 : decode b_C_fromCode 38 = .ok (.iconst 0, 1) := by decide +kernel
theorem d_C_fromCode_39 : decode b_C_fromCode 39 = .ok (.invokestatic 43, 3) := by decide +kernel
theorem d_C_fromCode_42 : decode b_C_fromCode 42 = .ok (.goto 4, 3) := by decide +kernel
theorem d_C_fromCode_45 : decode b_C_fromCode 45 = .ok (.lconst 0, 1) := by decide +kernel
theorem d_C_fromCode_46 : decode b_C_fromCode 46 = .ok (.lreturn, 1) := by decide +kernel
theorem d_K_movedSecret_0 : decode b_K_movedSecret 0 = .ok (.lload_n 0, 1) := by decide +kernel
theorem d_K_movedSecret_1 : decode b_K_movedSecret 1 = .ok (.lconst 0, 1) := by decide +kernel
theorem d_K_movedSecret_2 : decode b_K_movedSecret 2 = .ok (.lcmp, 1) := by decide +kernel
theorem d_K_movedSecret_3 : decode b_K_movedSecret 3 = .ok (.ifCond .ne 5, 3) := by decide +kernel
theorem d_K_movedSecret_6 : decode b_K_movedSecret 6 = .ok (.lconst 0, 1) := by decide +kernel
theorem d_K_movedSecret_7 : decode b_K_movedSecret 7 = .ok (.lreturn, 1) := by decide +kernel
theorem d_K_movedSecret_8 : decode b_K_movedSecret 8 = .ok (.iload 4, 2) := by decide +kernel
theorem d_K_movedSecret_10 : decode b_K_movedSecret 10 = .ok (.ifCond .eq 9, 3) := by decide +kernel
theorem d_K_movedSecret_13 : decode b_K_movedSecret 13 = .ok (.lload_n 0, 1) := by decide +kernel
theorem d_K_movedSecret_14 : decode b_K_movedSecret 14 = .ok (.lload_n 2, 1) := by decide +kernel
theorem d_K_movedSecret_15 : decode b_K_movedSecret 15 = .ok (.lmul, 1) := by decide +kernel
theorem d_K_movedSecret_16 : decode b_K_movedSecret 16 = .ok (.goto 6, 3) := by decide +kernel
theorem d_K_movedSecret_19 : decode b_K_movedSecret 19 = .ok (.lload_n 0, 1) := by decide +kernel
theorem d_K_movedSecret_20 : decode b_K_movedSecret 20 = .ok (.lload_n 2, 1) := by decide +kernel
theorem d_K_movedSecret_21 : decode b_K_movedSecret 21 = .ok (.ladd, 1) := by decide +kernel
theorem d_K_movedSecret_22 : decode b_K_movedSecret 22 = .ok (.ldc2_w 101, 3) := by decide +kernel
theorem d_K_movedSecret_25 : decode b_K_movedSecret 25 = .ok (.lrem, 1) := by decide +kernel
theorem d_K_movedSecret_26 : decode b_K_movedSecret 26 = .ok (.lreturn, 1) := by decide +kernel
theorem d_K_digest_0 : decode b_K_digest 0 = .ok (.lload_n 0, 1) := by decide +kernel
theorem d_K_digest_1 : decode b_K_digest 1 = .ok (.ldc2_w 191, 3) := by decide +kernel
theorem d_K_digest_4 : decode b_K_digest 4 = .ok (.invokestatic 95, 3) := by decide +kernel
theorem d_K_digest_7 : decode b_K_digest 7 = .ok (.bipush 34, 2) := by decide +kernel
theorem d_K_digest_9 : decode b_K_digest 9 = .ok (.lushr, 1) := by decide +kernel
theorem d_K_digest_10 : decode b_K_digest 10 = .ok (.lreturn, 1) := by decide +kernel
theorem d_S_quotient_0 : decode b_S_quotient 0 = .ok (.lload_n 0, 1) := by decide +kernel
theorem d_S_quotient_1 : decode b_S_quotient 1 = .ok (.ldc2_w 9, 3) := by decide +kernel
theorem d_S_quotient_4 : decode b_S_quotient 4 = .ok (.lrem, 1) := by decide +kernel
theorem d_S_quotient_5 : decode b_S_quotient 5 = .ok (.lload_n 2, 1) := by decide +kernel
theorem d_S_quotient_6 : decode b_S_quotient 6 = .ok (.ldc2_w 9, 3) := by decide +kernel
theorem d_S_quotient_9 : decode b_S_quotient 9 = .ok (.invokestatic 11, 3) := by decide +kernel
theorem d_S_quotient_12 : decode b_S_quotient 12 = .ok (.lmul, 1) := by decide +kernel
theorem d_S_quotient_13 : decode b_S_quotient 13 = .ok (.ldc2_w 9, 3) := by decide +kernel
theorem d_S_quotient_16 : decode b_S_quotient 16 = .ok (.lrem, 1) := by decide +kernel
theorem d_S_quotient_17 : decode b_S_quotient 17 = .ok (.lreturn, 1) := by decide +kernel
theorem d_K_markOf_0 : decode b_K_markOf 0 = .ok (.lload_n 0, 1) := by decide +kernel
theorem d_K_markOf_1 : decode b_K_markOf 1 = .ok (.invokestatic 132, 3) := by decide +kernel
theorem d_K_markOf_4 : decode b_K_markOf 4 = .ok (.lload_n 2, 1) := by decide +kernel
theorem d_K_markOf_5 : decode b_K_markOf 5 = .ok (.ldc2_w 112, 3) := by decide +kernel
theorem d_K_markOf_8 : decode b_K_markOf 8 = .ok (.lcmp, 1) := by decide +kernel
theorem d_K_markOf_9 : decode b_K_markOf 9 = .ok (.ifCond .le 7, 3) := by decide +kernel
theorem d_K_markOf_12 : decode b_K_markOf 12 = .ok (.iconst 1, 1) := by decide +kernel
theorem d_K_markOf_13 : decode b_K_markOf 13 = .ok (.goto 4, 3) := by decide +kernel
theorem d_K_markOf_16 : decode b_K_markOf 16 = .ok (.iconst 0, 1) := by decide +kernel
theorem d_K_markOf_17 : decode b_K_markOf 17 = .ok (.if_icmp .eq 7, 3) := by decide +kernel
theorem d_K_markOf_20 : decode b_K_markOf 20 = .ok (.iconst 1, 1) := by decide +kernel
theorem d_K_markOf_21 : decode b_K_markOf 21 = .ok (.goto 4, 3) := by decide +kernel
theorem d_K_markOf_24 : decode b_K_markOf 24 = .ok (.iconst 0, 1) := by decide +kernel
theorem d_K_markOf_25 : decode b_K_markOf 25 = .ok (.istore 4, 2) := by decide +kernel
theorem d_K_markOf_27 : decode b_K_markOf 27 = .ok (.lload_n 0, 1) := by decide +kernel
theorem d_K_markOf_28 : decode b_K_markOf 28 = .ok (.invokestatic 98, 3) := by decide +kernel
theorem d_K_markOf_31 : decode b_K_markOf 31 = .ok (.ldc2_w 101, 3) := by decide +kernel
theorem d_K_markOf_34 : decode b_K_markOf 34 = .ok (.lcmp, 1) := by decide +kernel
theorem d_K_markOf_35 : decode b_K_markOf 35 = .ok (.ifCond .lt 10, 3) := by decide +kernel
theorem d_K_markOf_38 : decode b_K_markOf 38 = .ok (.iload 4, 2) := by decide +kernel
theorem d_K_markOf_40 : decode b_K_markOf 40 = .ok (.iconst 2, 1) := by decide +kernel
theorem d_K_markOf_41 : decode b_K_markOf 41 = .ok (.iadd, 1) := by decide +kernel
theorem d_K_markOf_42 : decode b_K_markOf 42 = .ok (.goto 5, 3) := by decide +kernel
theorem d_K_markOf_45 : decode b_K_markOf 45 = .ok (.iload 4, 2) := by decide +kernel
theorem d_K_markOf_47 : decode b_K_markOf 47 = .ok (.ireturn, 1) := by decide +kernel
theorem d_K_evenScalar_0 : decode b_K_evenScalar 0 = .ok (.lload_n 2, 1) := by decide +kernel
theorem d_K_evenScalar_1 : decode b_K_evenScalar 1 = .ok (.invokestatic 132, 3) := by decide +kernel
theorem d_K_evenScalar_4 : decode b_K_evenScalar 4 = .ok (.ifCond .eq 11, 3) := by decide +kernel
theorem d_K_evenScalar_7 : decode b_K_evenScalar 7 = .ok (.ldc2_w 101, 3) := by decide +kernel
theorem d_K_evenScalar_10 : decode b_K_evenScalar 10 = .ok (.lload_n 0, 1) := by decide +kernel
theorem d_K_evenScalar_11 : decode b_K_evenScalar 11 = .ok (.lsub, 1) := by decide +kernel
theorem d_K_evenScalar_12 : decode b_K_evenScalar 12 = .ok (.goto 4, 3) := by decide +kernel
theorem d_K_evenScalar_15 : decode b_K_evenScalar 15 = .ok (.lload_n 0, 1) := by decide +kernel
theorem d_K_evenScalar_16 : decode b_K_evenScalar 16 = .ok (.lreturn, 1) := by decide +kernel
theorem d_C_evenOf_0 : decode b_C_evenOf 0 = .ok (.lload_n 0, 1) := by decide +kernel
theorem d_C_evenOf_1 : decode b_C_evenOf 1 = .ok (.invokestatic 26, 3) := by decide +kernel
theorem d_C_evenOf_4 : decode b_C_evenOf 4 = .ok (.ifCond .eq 10, 3) := by decide +kernel
theorem d_C_evenOf_7 : decode b_C_evenOf 7 = .ok (.lload_n 0, 1) := by decide +kernel
theorem d_C_evenOf_8 : decode b_C_evenOf 8 = .ok (.invokestatic 30, 3) := by decide +kernel
theorem d_C_evenOf_11 : decode b_C_evenOf 11 = .ok (.goto 4, 3) := by decide +kernel
theorem d_C_evenOf_14 : decode b_C_evenOf 14 = .ok (.lload_n 0, 1) := by decide +kernel
theorem d_C_evenOf_15 : decode b_C_evenOf 15 = .ok (.lreturn, 1) := by decide +kernel
