theorem d_K_secret_0 : decode b_K_secret 0 = .ok (.iload_n 1, 1) := by decide +kernel
theorem d_K_secret_1 : decode b_K_secret 1 = .ok (.invokestatic 34, 3) := by decide +kernel
theorem d_K_secret_4 : decode b_K_secret 4 = .ok (.iload_n 2, 1) := by decide +kernel
theorem d_K_secret_5 : decode b_K_secret 5 = .ok (.i2l, 1) := by decide +kernel
theorem d_K_secret_6 : decode b_K_secret 6 = .ok (.invokestatic 38, 3) := by decide +kernel
theorem d_K_secret_9 : decode b_K_secret 9 = .ok (.invokestatic 44, 3) := by decide +kernel
theorem d_K_secret_12 : decode b_K_secret 12 = .ok (.aload_n 0, 1) := by decide +kernel
theorem d_K_secret_13 : decode b_K_secret 13 = .ok (.iload_n 1, 1) := by decide +kernel
theorem d_K_secret_14 : decode b_K_secret 14 = .ok (.iload_n 2, 1) := by decide +kernel
theorem d_K_secret_15 : decode b_K_secret 15 = .ok (.i2l, 1) := by decide +kernel
theorem d_K_secret_16 : decode b_K_secret 16 = .ok (.ldc2_w 50, 3) := by decide +kernel
theorem d_K_secret_19 : decode b_K_secret 19 = .ok (.invokestatic 52, 3) := by decide +kernel
theorem d_K_secret_22 : decode b_K_secret 22 = .ok (.iload_n 2, 1) := by decide +kernel
theorem d_K_secret_23 : decode b_K_secret 23 = .ok (.i2l, 1) := by decide +kernel
theorem d_K_secret_24 : decode b_K_secret 24 = .ok (.invokevirtual 56, 3) := by decide +kernel
theorem d_K_secret_27 : decode b_K_secret 27 = .ok (.lreturn, 1) := by decide +kernel
theorem d_K_needSlot_0 : decode b_K_needSlot 0 = .ok (.iload_n 0, 1) := by decide +kernel
theorem d_K_needSlot_1 : decode b_K_needSlot 1 = .ok (.ifCond .lt 9, 3) := by decide +kernel
theorem d_K_needSlot_4 : decode b_K_needSlot 4 = .ok (.iload_n 0, 1) := by decide +kernel
theorem d_K_needSlot_5 : decode b_K_needSlot 5 = .ok (.bipush 6, 2) := by decide +kernel
theorem d_K_needSlot_7 : decode b_K_needSlot 7 = .ok (.if_icmp .lt 11, 3) := by decide +kernel
theorem d_K_needSlot_10 : decode b_K_needSlot 10 = .ok (.new 173, 3) := by decide +kernel
theorem d_K_needSlot_13 : decode b_K_needSlot 13 = .ok (.dup, 1) := by decide +kernel
theorem d_K_needSlot_14 : decode b_K_needSlot 14 = .ok (.invokespecial 175, 3) := by decide +kernel
theorem d_K_needSlot_17 : decode b_K_needSlot 17 = .ok (.athrow, 1) := by decide +kernel
theorem d_K_needSlot_18 : decode b_K_needSlot 18 = .ok (.return_, 1) := by decide +kernel
theorem d_K_needArgument_0 : decode b_K_needArgument 0 = .ok (.iload_n 0, 1) := by decide +kernel
theorem d_K_needArgument_1 : decode b_K_needArgument 1 = .ok (.ifCond .ne 11, 3) := by decide +kernel
theorem d_K_needArgument_4 : decode b_K_needArgument 4 = .ok (.new 176, 3) := by decide +kernel
theorem d_K_needArgument_7 : decode b_K_needArgument 7 = .ok (.dup, 1) := by decide +kernel
theorem d_K_needArgument_8 : decode b_K_needArgument 8 = .ok (.invokespecial 178, 3) := by decide +kernel
theorem d_K_needArgument_11 : decode b_K_needArgument 11 = .ok (.athrow, 1) := by decide +kernel
theorem d_K_needArgument_12 : decode b_K_needArgument 12 = .ok (.return_, 1) := by decide +kernel
theorem d_K_open_0 : decode b_K_open 0 = .ok (.iload_n 1, 1) := by decide +kernel
theorem d_K_open_1 : decode b_K_open 1 = .ok (.invokestatic 34, 3) := by decide +kernel
theorem d_K_open_4 : decode b_K_open 4 = .ok (.lload_n 2, 1) := by decide +kernel
theorem d_K_open_5 : decode b_K_open 5 = .ok (.invokestatic 60, 3) := by decide +kernel
theorem d_K_open_8 : decode b_K_open 8 = .ok (.lstore 4, 2) := by decide +kernel
theorem d_K_open_10 : decode b_K_open 10 = .ok (.lload 4, 2) := by decide +kernel
theorem d_K_open_12 : decode b_K_open 12 = .ok (.lconst 0, 1) := by decide +kernel
theorem d_K_open_13 : decode b_K_open 13 = .ok (.lcmp, 1) := by decide +kernel
theorem d_K_open_14 : decode b_K_open 14 = .ok (.ifCond .eq 7, 3) := by decide +kernel
theorem d_K_open_17 : decode b_K_open 17 = .ok (.iconst 1, 1) := by decide +kernel
theorem d_K_open_18 : decode b_K_open 18 = .ok (.goto 4, 3) := by decide +kernel
theorem d_K_open_21 : decode b_K_open 21 = .ok (.iconst 0, 1) := by decide +kernel
theorem d_K_open_22 : decode b_K_open 22 = .ok (.invokestatic 44, 3) := by decide +kernel
theorem d_K_open_25 : decode b_K_open 25 = .ok (.aload_n 0, 1) := by decide +kernel
theorem d_K_open_26 : decode b_K_open 26 = .ok (.iload_n 1, 1) := by decide +kernel
theorem d_K_open_27 : decode b_K_open 27 = .ok (.lload 4, 2) := by decide +kernel
theorem d_K_open_29 : decode b_K_open 29 = .ok (.lconst 0, 1) := by decide +kernel
theorem d_K_open_30 : decode b_K_open 30 = .ok (.invokevirtual 56, 3) := by decide +kernel
theorem d_K_open_33 : decode b_K_open 33 = .ok (.pop2, 1) := by decide +kernel
theorem d_K_open_34 : decode b_K_open 34 = .ok (.return_, 1) := by decide +kernel
theorem d_K_code_0 : decode b_K_code 0 = .ok (.iload_n 1, 1) := by decide +kernel
theorem d_K_code_1 : decode b_K_code 1 = .ok (.invokestatic 34, 3) := by decide +kernel
theorem d_K_code_4 : decode b_K_code 4 = .ok (.aload_n 0, 1) := by decide +kernel
theorem d_K_code_5 : decode b_K_code 5 = .ok (.getfield 9, 3) := by decide +kernel
theorem d_K_code_8 : decode b_K_code 8 = .ok (.iload_n 1, 1) := by decide +kernel
theorem d_K_code_9 : decode b_K_code 9 = .ok (.laload, 1) := by decide +kernel
theorem d_K_code_10 : decode b_K_code 10 = .ok (.invokestatic 64, 3) := by decide +kernel
theorem d_K_code_13 : decode b_K_code 13 = .ok (.lreturn, 1) := by decide +kernel
theorem d_K_tweak_0 : decode b_K_tweak 0 = .ok (.iload_n 1, 1) := by decide +kernel
theorem d_K_tweak_1 : decode b_K_tweak 1 = .ok (.invokestatic 34, 3) := by decide +kernel
theorem d_K_tweak_4 : decode b_K_tweak 4 = .ok (.aload_n 0, 1) := by decide +kernel
theorem d_K_tweak_5 : decode b_K_tweak 5 = .ok (.iload_n 1, 1) := by decide +kernel
theorem d_K_tweak_6 : decode b_K_tweak 6 = .ok (.invokevirtual 71, 3) := by decide +kernel
theorem d_K_tweak_9 : decode b_K_tweak 9 = .ok (.lstore 4, 2) := by decide +kernel
theorem d_K_tweak_11 : decode b_K_tweak 11 = .ok (.iload_n 2, 1) := by decide +kernel
theorem d_K_tweak_12 : decode b_K_tweak 12 = .ok (.i2l, 1) := by decide +kernel
theorem d_K_tweak_13 : decode b_K_tweak 13 = .ok (.invokestatic 75, 3) := by decide +kernel
theorem d_K_tweak_16 : decode b_K_tweak 16 = .ok (.invokestatic 44, 3) := by decide +kernel
theorem d_K_tweak_19 : decode b_K_tweak 19 = .ok (.iload_n 3, 1) := by decide +kernel
theorem d_K_tweak_20 : decode b_K_tweak 20 = .ok (.ifCond .eq 13, 3) := by decide +kernel
theorem d_K_tweak_23 : decode b_K_tweak 23 = .ok (.iload_n 2, 1) := by decide +kernel
theorem d_K_tweak_24 : decode b_K_tweak 24 = .ok (.i2l, 1) := by decide +kernel
theorem d_K_tweak_25 : decode b_K_tweak 25 = .ok (.lload 4, 2) := by decide +kernel
theorem d_K_tweak_27 : decode b_K_tweak 27 = .ok (.invokestatic 52, 3) := by decide +kernel
theorem d_K_tweak_30 : decode b_K_tweak 30 = .ok (.goto 16, 3) := by decide +kernel
theorem d_K_tweak_33 : decode b_K_tweak 33 = .ok (.lload 4, 2) := by decide +kernel
theorem d_K_tweak_35 : decode b_K_tweak 35 = .ok (.iload_n 2, 1) := by decide +kernel
theorem d_K_tweak_36 : decode b_K_tweak 36 = .ok (.i2l, 1) := by decide +kernel
theorem d_K_tweak_37 : decode b_K_tweak 37 = .ok (.ldc2_w 50, 3) := by decide +kernel
theorem d_K_tweak_40 : decode b_K_tweak 40 = .ok (.invokestatic 52, 3) := by decide +kernel
theorem d_K_tweak_43 : decode b_K_tweak 43 = .ok (.invokestatic 78, 3) := by decide +kernel
theorem d_K_tweak_46 : decode b_K_tweak 46 = .ok (.lstore 6, 2) := by decide +kernel
theorem d_K_tweak_48 : decode b_K_tweak 48 = .ok (.lload 6, 2) := by decide +kernel
theorem d_K_tweak_50 : decode b_K_tweak 50 = .ok (.lconst 0, 1) := by decide +kernel
theorem d_K_tweak_51 : decode b_K_tweak 51 = .ok (.lcmp, 1) := by decide +kernel
theorem d_K_tweak_52 : decode b_K_tweak 52 = .ok (.ifCond .eq 7, 3) := by decide +kernel
theorem d_K_tweak_55 : decode b_K_tweak 55 = .ok (.iconst 1, 1) := by decide +kernel
theorem d_K_tweak_56 : decode b_K_tweak 56 = .ok (.goto 4, 3) := by decide +kernel
theorem d_K_tweak_59 : decode b_K_tweak 59 = .ok (.iconst 0, 1) := by decide +kernel
theorem d_K_tweak_60 : decode b_K_tweak 60 = .ok (.invokestatic 44, 3) := by decide +kernel
theorem d_K_tweak_63 : decode b_K_tweak 63 = .ok (.aload_n 0, 1) := by decide +kernel
theorem d_K_tweak_64 : decode b_K_tweak 64 = .ok (.iload_n 1, 1) := by decide +kernel
theorem d_K_tweak_65 : decode b_K_tweak 65 = .ok (.lload 6, 2) := by decide +kernel
theorem d_K_tweak_67 : decode b_K_tweak 67 = .ok (.aload_n 0, 1) := by decide +kernel
theorem d_K_tweak_68 : decode b_K_tweak 68 = .ok (.getfield 13, 3) := by decide +kernel
theorem d_K_tweak_71 : decode b_K_tweak 71 = .ok (.iload_n 1, 1) := by decide +kernel
theorem d_K_tweak_72 : decode b_K_tweak 72 = .ok (.laload, 1) := by decide +kernel
theorem d_K_tweak_73 : decode b_K_tweak 73 = .ok (.iload_n 2, 1) := by decide +kernel
theorem d_K_tweak_74 : decode b_K_tweak 74 = .ok (.i2l, 1) := by decide +kernel
theorem d_K_tweak_75 : decode b_K_tweak 75 = .ok (.iload_n 3, 1) := by decide +kernel
theorem d_K_tweak_76 : decode b_K_tweak 76 = .ok (.invokestatic 81, 3) := by decide +kernel
theorem d_K_tweak_79 : decode b_K_tweak 79 = .ok (.invokevirtual 56, 3) := by decide +kernel
theorem d_K_tweak_82 : decode b_K_tweak 82 = .ok (.lreturn, 1) := by decide +kernel
theorem d_K_pointOf_0 : decode b_K_pointOf 0 = .ok (.aload_n 0, 1) := by decide +kernel
theorem d_K_pointOf_1 : decode b_K_pointOf 1 = .ok (.getfield 9, 3) := by decide +kernel
theorem d_K_pointOf_4 : decode b_K_pointOf 4 = .ok (.iload_n 1, 1) := by decide +kernel
theorem d_K_pointOf_5 : decode b_K_pointOf 5 = .ok (.laload, 1) := by decide +kernel
theorem d_K_pointOf_6 : decode b_K_pointOf 6 = .ok (.lconst 0, 1) := by decide +kernel
theorem d_K_pointOf_7 : decode b_K_pointOf 7 = .ok (.lcmp, 1) := by decide +kernel
theorem d_K_pointOf_8 : decode b_K_pointOf 8 = .ok (.ifCond .ne 11, 3) := by decide +kernel
theorem d_K_pointOf_11 : decode b_K_pointOf 11 = .ok (.new 179, 3) := by decide +kernel
theorem d_K_pointOf_14 : decode b_K_pointOf 14 = .ok (.dup, 1) := by decide +kernel
theorem d_K_pointOf_15 : decode b_K_pointOf 15 = .ok (.invokespecial 181, 3) := by decide +kernel
theorem d_K_pointOf_18 : decode b_K_pointOf 18 = .ok (.athrow, 1) := by decide +kernel
theorem d_K_pointOf_19 : decode b_K_pointOf 19 = .ok (.aload_n 0, 1) := by decide +kernel
theorem d_K_pointOf_20 : decode b_K_pointOf 20 = .ok (.getfield 9, 3) := by decide +kernel
theorem d_K_pointOf_23 : decode b_K_pointOf 23 = .ok (.iload_n 1, 1) := by decide +kernel
theorem d_K_pointOf_24 : decode b_K_pointOf 24 = .ok (.laload, 1) := by decide +kernel
theorem d_K_pointOf_25 : decode b_K_pointOf 25 = .ok (.lreturn, 1) := by decide +kernel
theorem d_K_combine_0 : decode b_K_combine 0 = .ok (.iload_n 1, 1) := by decide +kernel
theorem d_K_combine_1 : decode b_K_combine 1 = .ok (.invokestatic 34, 3) := by decide +kernel
theorem d_K_combine_4 : decode b_K_combine 4 = .ok (.iload_n 2, 1) := by decide +kernel
theorem d_K_combine_5 : decode b_K_combine 5 = .ok (.invokestatic 34, 3) := by decide +kernel
theorem d_K_combine_8 : decode b_K_combine 8 = .ok (.iload_n 3, 1) := by decide +kernel
theorem d_K_combine_9 : decode b_K_combine 9 = .ok (.invokestatic 34, 3) := by decide +kernel
theorem d_K_combine_12 : decode b_K_combine 12 = .ok (.aload_n 0, 1) := by decide +kernel
theorem d_K_combine_13 : decode b_K_combine 13 = .ok (.iload_n 2, 1) := by decide +kernel
theorem d_K_combine_14 : decode b_K_combine 14 = .ok (.invokevirtual 71, 3) := by decide +kernel
theorem d_K_combine_17 : decode b_K_combine 17 = .ok (.aload_n 0, 1) := by decide +kernel
theorem d_K_combine_18 : decode b_K_combine 18 = .ok (.iload_n 3, 1) := by decide +kernel
theorem d_K_combine_19 : decode b_K_combine 19 = .ok (.invokevirtual 71, 3) := by decide +kernel
theorem d_K_combine_22 : decode b_K_combine 22 = .ok (.invokestatic 78, 3) := by decide +kernel
theorem d_K_combine_25 : decode b_K_combine 25 = .ok (.lstore 4, 2) := by decide +kernel
theorem d_K_combine_27 : decode b_K_combine 27 = .ok (.lload 4, 2) := by decide +kernel
theorem d_K_combine_29 : decode b_K_combine 29 = .ok (.lconst 0, 1) := by decide +kernel
theorem d_K_combine_30 : decode b_K_combine 30 = .ok (.lcmp, 1) := by decide +kernel
theorem d_K_combine_31 : decode b_K_combine 31 = .ok (.ifCond .eq 7, 3) := by decide +kernel
theorem d_K_combine_34 : decode b_K_combine 34 = .ok (.iconst 1, 1) := by decide +kernel
theorem d_K_combine_35 : decode b_K_combine 35 = .ok (.goto 4, 3) := by decide +kernel
theorem d_K_combine_38 : decode b_K_combine 38 = .ok (.iconst 0, 1) := by decide +kernel
theorem d_K_combine_39 : decode b_K_combine 39 = .ok (.invokestatic 44, 3) := by decide +kernel
theorem d_K_combine_42 : decode b_K_combine 42 = .ok (.aload_n 0, 1) := by decide +kernel
theorem d_K_combine_43 : decode b_K_combine 43 = .ok (.iload_n 1, 1) := by decide +kernel
theorem d_K_combine_44 : decode b_K_combine 44 = .ok (.lload 4, 2) := by decide +kernel
theorem d_K_combine_46 : decode b_K_combine 46 = .ok (.lconst 0, 1) := by decide +kernel
theorem d_K_combine_47 : decode b_K_combine 47 = .ok (.invokevirtual 56, 3) := by decide +kernel
theorem d_K_combine_50 : decode b_K_combine 50 = .ok (.lreturn, 1) := by decide +kernel
theorem d_K_linear_0 : decode b_K_linear 0 = .ok (.iload_n 1, 1) := by decide +kernel
theorem d_K_linear_1 : decode b_K_linear 1 = .ok (.invokestatic 34, 3) := by decide +kernel
theorem d_K_linear_4 : decode b_K_linear 4 = .ok (.aload_n 0, 1) := by decide +kernel
theorem d_K_linear_5 : decode b_K_linear 5 = .ok (.iload_n 1, 1) := by decide +kernel
theorem d_K_linear_6 : decode b_K_linear 6 = .ok (.invokevirtual 71, 3) := by decide +kernel
theorem d_K_linear_9 : decode b_K_linear 9 = .ok (.lstore 4, 2) := by decide +kernel
theorem d_K_linear_11 : decode b_K_linear 11 = .ok (.iload_n 2, 1) := by decide +kernel
theorem d_K_linear_12 : decode b_K_linear 12 = .ok (.i2l, 1) := by decide +kernel
theorem d_K_linear_13 : decode b_K_linear 13 = .ok (.invokestatic 75, 3) := by decide +kernel
theorem d_K_linear_16 : decode b_K_linear 16 = .ok (.ifCond .eq 15, 3) := by decide +kernel
theorem d_K_linear_19 : decode b_K_linear 19 = .ok (.iload_n 3, 1) := by decide +kernel
theorem d_K_linear_20 : decode b_K_linear 20 = .ok (.i2l, 1) := by decide +kernel
theorem d_K_linear_21 : decode b_K_linear 21 = .ok (.invokestatic 75, 3) := by decide +kernel
theorem d_K_linear_24 : decode b_K_linear 24 = .ok (.ifCond .eq 7, 3) := by decide +kernel
theorem d_K_linear_27 : decode b_K_linear 27 = .ok (.iconst 1, 1) := by decide +kernel
theorem d_K_linear_28 : decode b_K_linear 28 = .ok (.goto 4, 3) := by decide +kernel
theorem d_K_linear_31 : decode b_K_linear 31 = .ok (.iconst 0, 1) := by decide +kernel
theorem d_K_linear_32 : decode b_K_linear 32 = .ok (.invokestatic 44, 3) := by decide +kernel
theorem d_K_linear_35 : decode b_K_linear 35 = .ok (.iload_n 2, 1) := by decide +kernel
theorem d_K_linear_36 : decode b_K_linear 36 = .ok (.i2l, 1) := by decide +kernel
theorem d_K_linear_37 : decode b_K_linear 37 = .ok (.ldc2_w 50, 3) := by decide +kernel
theorem d_K_linear_40 : decode b_K_linear 40 = .ok (.iload_n 3, 1) := by decide +kernel
theorem d_K_linear_41 : decode b_K_linear 41 = .ok (.i2l, 1) := by decide +kernel
theorem d_K_linear_42 : decode b_K_linear 42 = .ok (.lload 4, 2) := by decide +kernel
theorem d_K_linear_44 : decode b_K_linear 44 = .ok (.invokestatic 85, 3) := by decide +kernel
theorem d_K_linear_47 : decode b_K_linear 47 = .ok (.invokestatic 64, 3) := by decide +kernel
theorem d_K_linear_50 : decode b_K_linear 50 = .ok (.lreturn, 1) := by decide +kernel
theorem d_K_sign_0 : decode b_K_sign 0 = .ok (.iload_n 1, 1) := by decide +kernel
theorem d_K_sign_1 : decode b_K_sign 1 = .ok (.invokestatic 34, 3) := by decide +kernel
theorem d_K_sign_4 : decode b_K_sign 4 = .ok (.aload_n 0, 1) := by decide +kernel
theorem d_K_sign_5 : decode b_K_sign 5 = .ok (.iload_n 1, 1) := by decide +kernel
theorem d_K_sign_6 : decode b_K_sign 6 = .ok (.invokevirtual 89, 3) := by decide +kernel
theorem d_K_sign_9 : decode b_K_sign 9 = .ok (.lstore 4, 2) := by decide +kernel
theorem d_K_sign_11 : decode b_K_sign 11 = .ok (.lload_n 2, 1) := by decide +kernel
theorem d_K_sign_12 : decode b_K_sign 12 = .ok (.invokestatic 92, 3) := by decide +kernel
theorem d_K_sign_15 : decode b_K_sign 15 = .ok (.lstore 6, 2) := by decide +kernel
theorem d_K_sign_17 : decode b_K_sign 17 = .ok (.lload 4, 2) := by decide +kernel
theorem d_K_sign_19 : decode b_K_sign 19 = .ok (.lload 6, 2) := by decide +kernel
theorem d_K_sign_21 : decode b_K_sign 21 = .ok (.invokestatic 95, 3) := by decide +kernel
theorem d_K_sign_24 : decode b_K_sign 24 = .ok (.lstore 8, 2) := by decide +kernel
theorem d_K_sign_26 : decode b_K_sign 26 = .ok (.iconst 1, 1) := by decide +kernel
theorem d_K_sign_27 : decode b_K_sign 27 = .ok (.istore 10, 2) := by decide +kernel
theorem d_K_sign_29 : decode b_K_sign 29 = .ok (.iload 10, 2) := by decide +kernel
theorem d_K_sign_31 : decode b_K_sign 31 = .ok (.bipush 64, 2) := by decide +kernel
theorem d_K_sign_33 : decode b_K_sign 33 = .ok (.if_icmp .gt 119, 3) := by decide +kernel
theorem d_K_sign_36 : decode b_K_sign 36 = .ok (.lload 8, 2) := by decide +kernel
theorem d_K_sign_38 : decode b_K_sign 38 = .ok (.iload 10, 2) := by decide +kernel
theorem d_K_sign_40 : decode b_K_sign 40 = .ok (.i2l, 1) := by decide +kernel
theorem d_K_sign_41 : decode b_K_sign 41 = .ok (.invokestatic 95, 3) := by decide +kernel
theorem d_K_sign_44 : decode b_K_sign 44 = .ok (.bipush 33, 2) := by decide +kernel
theorem d_K_sign_46 : decode b_K_sign 46 = .ok (.lushr, 1) := by decide +kernel
theorem d_K_sign_47 : decode b_K_sign 47 = .ok (.lstore 11, 2) := by decide +kernel
theorem d_K_sign_49 : decode b_K_sign 49 = .ok (.lload 11, 2) := by decide +kernel
theorem d_K_sign_51 : decode b_K_sign 51 = .ok (.invokestatic 38, 3) := by decide +kernel
theorem d_K_sign_54 : decode b_K_sign 54 = .ok (.ifCond .eq 92, 3) := by decide +kernel
theorem d_K_sign_57 : decode b_K_sign 57 = .ok (.lload 11, 2) := by decide +kernel
theorem d_K_sign_59 : decode b_K_sign 59 = .ok (.ldc2_w 50, 3) := by decide +kernel
theorem d_K_sign_62 : decode b_K_sign 62 = .ok (.invokestatic 52, 3) := by decide +kernel
theorem d_K_sign_65 : decode b_K_sign 65 = .ok (.lstore 13, 2) := by decide +kernel
theorem d_K_sign_67 : decode b_K_sign 67 = .ok (.lload 13, 2) := by decide +kernel
theorem d_K_sign_69 : decode b_K_sign 69 = .ok (.invokestatic 98, 3) := by decide +kernel
theorem d_K_sign_72 : decode b_K_sign 72 = .ok (.ldc2_w 101, 3) := by decide +kernel
theorem d_K_sign_75 : decode b_K_sign 75 = .ok (.lrem, 1) := by decide +kernel
theorem d_K_sign_76 : decode b_K_sign 76 = .ok (.lstore 15, 2) := by decide +kernel
theorem d_K_sign_78 : decode b_K_sign 78 = .ok (.lload 6, 2) := by decide +kernel
theorem d_K_sign_80 : decode b_K_sign 80 = .ok (.lload 15, 2) := by decide +kernel
theorem d_K_sign_82 : decode b_K_sign 82 = .ok (.lload 4, 2) := by decide +kernel
theorem d_K_sign_84 : decode b_K_sign 84 = .ok (.lmul, 1) := by decide +kernel
theorem d_K_sign_85 : decode b_K_sign 85 = .ok (.ladd, 1) := by decide +kernel
theorem d_K_sign_86 : decode b_K_sign 86 = .ok (.lload 11, 2) := by decide +kernel
theorem d_K_sign_88 : decode b_K_sign 88 = .ok (.invokestatic 103, 3) := by decide +kernel
theorem d_K_sign_91 : decode b_K_sign 91 = .ok (.lstore 17, 2) := by decide +kernel
theorem d_K_sign_93 : decode b_K_sign 93 = .ok (.lload 15, 2) := by decide +kernel
theorem d_K_sign_95 : decode b_K_sign 95 = .ok (.lconst 0, 1) := by decide +kernel
theorem d_K_sign_96 : decode b_K_sign 96 = .ok (.lcmp, 1) := by decide +kernel
theorem d_K_sign_97 : decode b_K_sign 97 = .ok (.ifCond .eq 49, 3) := by decide +kernel
theorem d_K_sign_100 : decode b_K_sign 100 = .ok (.lload 17, 2) := by decide +kernel
theorem d_K_sign_102 : decode b_K_sign 102 = .ok (.lconst 0, 1) := by decide +kernel
theorem d_K_sign_103 : decode b_K_sign 103 = .ok (.lcmp, 1) := by decide +kernel
theorem d_K_sign_104 : decode b_K_sign 104 = .ok (.ifCond .eq 42, 3) := by decide +kernel
theorem d_K_sign_107 : decode b_K_sign 107 = .ok (.aload_n 0, 1) := by decide +kernel
theorem d_K_sign_108 : decode b_K_sign 108 = .ok (.lload 13, 2) := by decide +kernel
theorem d_K_sign_110 : decode b_K_sign 110 = .ok (.lload 17, 2) := by decide +kernel
theorem d_K_sign_112 : decode b_K_sign 112 = .ok (.invokestatic 106, 3) := by decide +kernel
theorem d_K_sign_115 : decode b_K_sign 115 = .ok (.putfield 30, 3) := by decide +kernel
theorem d_K_sign_118 : decode b_K_sign 118 = .ok (.lload 15, 2) := by decide +kernel
theorem d_K_sign_120 : decode b_K_sign 120 = .ok (.ldc2_w 110, 3) := by decide +kernel
theorem d_K_sign_123 : decode b_K_sign 123 = .ok (.lmul, 1) := by decide +kernel
theorem d_K_sign_124 : decode b_K_sign 124 = .ok (.lload 17, 2) := by decide +kernel
theorem d_K_sign_126 : decode b_K_sign 126 = .ok (.ldc2_w 112, 3) := by decide +kernel
theorem d_K_sign_129 : decode b_K_sign 129 = .ok (.lcmp, 1) := by decide +kernel
theorem d_K_sign_130 : decode b_K_sign 130 = .ok (.ifCond .le 12, 3) := by decide +kernel
theorem d_K_sign_133 : decode b_K_sign 133 = .ok (.ldc2_w 101, 3) := by decide +kernel
theorem d_K_sign_136 : decode b_K_sign 136 = .ok (.lload 17, 2) := by decide +kernel
theorem d_K_sign_138 : decode b_K_sign 138 = .ok (.lsub, 1) := by decide +kernel
theorem d_K_sign_139 : decode b_K_sign 139 = .ok (.goto 5, 3) := by decide +kernel
theorem d_K_sign_142 : decode b_K_sign 142 = .ok (.lload 17, 2) := by decide +kernel
theorem d_K_sign_144 : decode b_K_sign 144 = .ok (.ladd, 1) := by decide +kernel
theorem d_K_sign_145 : decode b_K_sign 145 = .ok (.lreturn, 1) := by decide +kernel
theorem d_K_sign_146 : decode b_K_sign 146 = .ok (.iinc 10 1, 3) := by decide +kernel
theorem d_K_sign_149 : decode b_K_sign 149 = .ok (.goto (-120), 3) := by decide +kernel
theorem d_K_sign_152 : decode b_K_sign 152 = .ok (.new 114, 3) := by decide +kernel
theorem d_K_sign_155 : decode b_K_sign 155 = .ok (.dup, 1) := by decide +kernel
theorem d_K_sign_156 : decode b_K_sign 156 = .ok (.invokespecial 116, 3) := by decide +kernel
theorem d_K_sign_159 : decode b_K_sign 159 = .ok (.athrow, 1) := by decide +kernel
theorem d_K_secretOf_0 : decode b_K_secretOf 0 = .ok (.aload_n 0, 1) := by decide +kernel
theorem d_K_secretOf_1 : decode b_K_secretOf 1 = .ok (.getfield 13, 3) := by decide +kernel
theorem d_K_secretOf_4 : decode b_K_secretOf 4 = .ok (.iload_n 1, 1) := by decide +kernel
theorem d_K_secretOf_5 : decode b_K_secretOf 5 = .ok (.laload, 1) := by decide +kernel
theorem d_K_secretOf_6 : decode b_K_secretOf 6 = .ok (.lconst 0, 1) := by decide +kernel
theorem d_K_secretOf_7 : decode b_K_secretOf 7 = .ok (.lcmp, 1) := by decide +kernel
theorem d_K_secretOf_8 : decode b_K_secretOf 8 = .ok (.ifCond .ne 11, 3) := by decide +kernel
theorem d_K_secretOf_11 : decode b_K_secretOf 11 = .ok (.new 182, 3) := by decide +kernel
theorem d_K_secretOf_14 : decode b_K_secretOf 14 = .ok (.dup, 1) := by decide +kernel
theorem d_K_secretOf_15 : decode b_K_secretOf 15 = .ok (.invokespecial 184, 3) := by decide +kernel
theorem d_K_secretOf_18 : decode b_K_secretOf 18 = .ok (.athrow, 1) := by decide +kernel
theorem d_K_secretOf_19 : decode b_K_secretOf 19 = .ok (.aload_n 0, 1) := by decide +kernel
theorem d_K_secretOf_20 : decode b_K_secretOf 20 = .ok (.getfield 13, 3) := by decide +kernel
theorem d_K_secretOf_23 : decode b_K_secretOf 23 = .ok (.iload_n 1, 1) := by decide +kernel
theorem d_K_secretOf_24 : decode b_K_secretOf 24 = .ok (.laload, 1) := by decide +kernel
theorem d_K_secretOf_25 : decode b_K_secretOf 25 = .ok (.lreturn, 1) := by decide +kernel
theorem d_K_good_0 : decode b_K_good 0 = .ok (.iload_n 1, 1) := by decide +kernel
theorem d_K_good_1 : decode b_K_good 1 = .ok (.invokestatic 34, 3) := by decide +kernel
theorem d_K_good_4 : decode b_K_good 4 = .ok (.aload_n 0, 1) := by decide +kernel
theorem d_K_good_5 : decode b_K_good 5 = .ok (.iload_n 1, 1) := by decide +kernel
theorem d_K_good_6 : decode b_K_good 6 = .ok (.invokevirtual 71, 3) := by decide +kernel
theorem d_K_good_9 : decode b_K_good 9 = .ok (.lstore 6, 2) := by decide +kernel
theorem d_K_good_11 : decode b_K_good 11 = .ok (.iload 4, 2) := by decide +kernel
theorem d_K_good_13 : decode b_K_good 13 = .ok (.i2l, 1) := by decide +kernel
theorem d_K_good_14 : decode b_K_good 14 = .ok (.invokestatic 38, 3) := by decide +kernel
theorem d_K_good_17 : decode b_K_good 17 = .ok (.ifCond .eq 22, 3) := by decide +kernel
theorem d_K_good_20 : decode b_K_good 20 = .ok (.iload 5, 2) := by decide +kernel
theorem d_K_good_22 : decode b_K_good 22 = .ok (.i2l, 1) := by decide +kernel
theorem d_K_good_23 : decode b_K_good 23 = .ok (.invokestatic 38, 3) := by decide +kernel
theorem d_K_good_26 : decode b_K_good 26 = .ok (.ifCond .eq 13, 3) := by decide +kernel
theorem d_K_good_29 : decode b_K_good 29 = .ok (.iload 5, 2) := by decide +kernel
theorem d_K_good_31 : decode b_K_good 31 = .ok (.i2l, 1) := by decide +kernel
theorem d_K_good_32 : decode b_K_good 32 = .ok (.ldc2_w 112, 3) := by decide +kernel
theorem d_K_good_35 : decode b_K_good 35 = .ok (.lcmp, 1) := by decide +kernel
theorem d_K_good_36 : decode b_K_good 36 = .ok (.ifCond .le 5, 3) := by decide +kernel
theorem d_K_good_39 : decode b_K_good 39 = .ok (.iconst 0, 1) := by decide +kernel
theorem d_K_good_40 : decode b_K_good 40 = .ok (.ireturn, 1) := by decide +kernel
theorem d_K_good_41 : decode b_K_good 41 = .ok (.lload_n 2, 1) := by decide +kernel
theorem d_K_good_42 : decode b_K_good 42 = .ok (.invokestatic 92, 3) := by decide +kernel
theorem d_K_good_45 : decode b_K_good 45 = .ok (.iload 5, 2) := by decide +kernel
theorem d_K_good_47 : decode b_K_good 47 = .ok (.i2l, 1) := by decide +kernel
theorem d_K_good_48 : decode b_K_good 48 = .ok (.invokestatic 103, 3) := by decide +kernel
theorem d_K_good_51 : decode b_K_good 51 = .ok (.lstore 8, 2) := by decide +kernel
theorem d_K_good_53 : decode b_K_good 53 = .ok (.iload 4, 2) := by decide +kernel
theorem d_K_good_55 : decode b_K_good 55 = .ok (.i2l, 1) := by decide +kernel
theorem d_K_good_56 : decode b_K_good 56 = .ok (.iload 5, 2) := by decide +kernel
theorem d_K_good_58 : decode b_K_good 58 = .ok (.i2l, 1) := by decide +kernel
theorem d_K_good_59 : decode b_K_good 59 = .ok (.invokestatic 103, 3) := by decide +kernel
theorem d_K_good_62 : decode b_K_good 62 = .ok (.lstore 10, 2) := by decide +kernel
theorem d_K_good_64 : decode b_K_good 64 = .ok (.lload 8, 2) := by decide +kernel
theorem d_K_good_66 : decode b_K_good 66 = .ok (.ldc2_w 50, 3) := by decide +kernel
theorem d_K_good_69 : decode b_K_good 69 = .ok (.lload 10, 2) := by decide +kernel
theorem d_K_good_71 : decode b_K_good 71 = .ok (.lload 6, 2) := by decide +kernel
theorem d_K_good_73 : decode b_K_good 73 = .ok (.invokestatic 85, 3) := by decide +kernel
theorem d_K_good_76 : decode b_K_good 76 = .ok (.lstore 12, 2) := by decide +kernel
theorem d_K_good_78 : decode b_K_good 78 = .ok (.lload 12, 2) := by decide +kernel
theorem d_K_good_80 : decode b_K_good 80 = .ok (.lconst 0, 1) := by decide +kernel
theorem d_K_good_81 : decode b_K_good 81 = .ok (.lcmp, 1) := by decide +kernel
theorem d_K_good_82 : decode b_K_good 82 = .ok (.ifCond .eq 23, 3) := by decide +kernel
theorem d_K_good_85 : decode b_K_good 85 = .ok (.lload 12, 2) := by decide +kernel
theorem d_K_good_87 : decode b_K_good 87 = .ok (.invokestatic 98, 3) := by decide +kernel
theorem d_K_good_90 : decode b_K_good 90 = .ok (.ldc2_w 101, 3) := by decide +kernel
theorem d_K_good_93 : decode b_K_good 93 = .ok (.lrem, 1) := by decide +kernel
theorem d_K_good_94 : decode b_K_good 94 = .ok (.iload 4, 2) := by decide +kernel
theorem d_K_good_96 : decode b_K_good 96 = .ok (.i2l, 1) := by decide +kernel
theorem d_K_good_97 : decode b_K_good 97 = .ok (.lcmp, 1) := by decide +kernel
theorem d_K_good_98 : decode b_K_good 98 = .ok (.ifCond .ne 7, 3) := by decide +kernel
theorem d_K_good_101 : decode b_K_good 101 = .ok (.iconst 1, 1) := by decide +kernel
theorem d_K_good_102 : decode b_K_good 102 = .ok (.goto 4, 3) := by decide +kernel
theorem d_K_good_105 : decode b_K_good 105 = .ok (.iconst 0, 1) := by decide +kernel
theorem d_K_good_106 : decode b_K_good 106 = .ok (.ireturn, 1) := by decide +kernel
theorem d_K_recover_0 : decode b_K_recover 0 = .ok (.iload_n 1, 1) := by decide +kernel
theorem d_K_recover_1 : decode b_K_recover 1 = .ok (.invokestatic 34, 3) := by decide +kernel
theorem d_K_recover_4 : decode b_K_recover 4 = .ok (.iload 4, 2) := by decide +kernel
theorem d_K_recover_6 : decode b_K_recover 6 = .ok (.i2l, 1) := by decide +kernel
theorem d_K_recover_7 : decode b_K_recover 7 = .ok (.invokestatic 38, 3) := by decide +kernel
theorem d_K_recover_10 : decode b_K_recover 10 = .ok (.ifCond .eq 27, 3) := by decide +kernel
theorem d_K_recover_13 : decode b_K_recover 13 = .ok (.iload 5, 2) := by decide +kernel
theorem d_K_recover_15 : decode b_K_recover 15 = .ok (.i2l, 1) := by decide +kernel
theorem d_K_recover_16 : decode b_K_recover 16 = .ok (.invokestatic 38, 3) := by decide +kernel
theorem d_K_recover_19 : decode b_K_recover 19 = .ok (.ifCond .eq 18, 3) := by decide +kernel
theorem d_K_recover_22 : decode b_K_recover 22 = .ok (.iload 6, 2) := by decide +kernel
theorem d_K_recover_24 : decode b_K_recover 24 = .ok (.ifCond .lt 13, 3) := by decide +kernel
theorem d_K_recover_27 : decode b_K_recover 27 = .ok (.iload 6, 2) := by decide +kernel
theorem d_K_recover_29 : decode b_K_recover 29 = .ok (.iconst 3, 1) := by decide +kernel
theorem d_K_recover_30 : decode b_K_recover 30 = .ok (.if_icmp .gt 7, 3) := by decide +kernel
theorem d_K_recover_33 : decode b_K_recover 33 = .ok (.iconst 1, 1) := by decide +kernel
theorem d_K_recover_34 : decode b_K_recover 34 = .ok (.goto 4, 3) := by decide +kernel
theorem d_K_recover_37 : decode b_K_recover 37 = .ok (.iconst 0, 1) := by decide +kernel
theorem d_K_recover_38 : decode b_K_recover 38 = .ok (.invokestatic 44, 3) := by decide +kernel
theorem d_K_recover_41 : decode b_K_recover 41 = .ok (.iload 6, 2) := by decide +kernel
theorem d_K_recover_43 : decode b_K_recover 43 = .ok (.iconst 2, 1) := by decide +kernel
theorem d_K_recover_44 : decode b_K_recover 44 = .ok (.iand, 1) := by decide +kernel
theorem d_K_recover_45 : decode b_K_recover 45 = .ok (.ifCond .ne 9, 3) := by decide +kernel
theorem d_K_recover_48 : decode b_K_recover 48 = .ok (.iload 4, 2) := by decide +kernel
theorem d_K_recover_50 : decode b_K_recover 50 = .ok (.i2l, 1) := by decide +kernel
theorem d_K_recover_51 : decode b_K_recover 51 = .ok (.goto 10, 3) := by decide +kernel
theorem d_K_recover_54 : decode b_K_recover 54 = .ok (.iload 4, 2) := by decide +kernel
theorem d_K_recover_56 : decode b_K_recover 56 = .ok (.i2l, 1) := by decide +kernel
theorem d_K_recover_57 : decode b_K_recover 57 = .ok (.ldc2_w 101, 3) := by decide +kernel
theorem d_K_recover_60 : decode b_K_recover 60 = .ok (.ladd, 1) := by decide +kernel
theorem d_K_recover_61 : decode b_K_recover 61 = .ok (.lstore 7, 2) := by decide +kernel
theorem d_K_recover_63 : decode b_K_recover 63 = .ok (.lload 7, 2) := by decide +kernel
theorem d_K_recover_65 : decode b_K_recover 65 = .ok (.iload 6, 2) := by decide +kernel
theorem d_K_recover_67 : decode b_K_recover 67 = .ok (.iconst 1, 1) := by decide +kernel
theorem d_K_recover_68 : decode b_K_recover 68 = .ok (.iand, 1) := by decide +kernel
theorem d_K_recover_69 : decode b_K_recover 69 = .ok (.iconst 1, 1) := by decide +kernel
theorem d_K_recover_70 : decode b_K_recover 70 = .ok (.if_icmp .ne 7, 3) := by decide +kernel
theorem d_K_recover_73 : decode b_K_recover 73 = .ok (.iconst 1, 1) := by decide +kernel
theorem d_K_recover_74 : decode b_K_recover 74 = .ok (.goto 4, 3) := by decide +kernel
theorem d_K_recover_77 : decode b_K_recover 77 = .ok (.iconst 0, 1) := by decide +kernel
theorem d_K_recover_78 : decode b_K_recover 78 = .ok (.invokestatic 67, 3) := by decide +kernel
theorem d_K_recover_81 : decode b_K_recover 81 = .ok (.lstore 9, 2) := by decide +kernel
theorem d_K_recover_83 : decode b_K_recover 83 = .ok (.lload 9, 2) := by decide +kernel
theorem d_K_recover_85 : decode b_K_recover 85 = .ok (.lconst 0, 1) := by decide +kernel
theorem d_K_recover_86 : decode b_K_recover 86 = .ok (.lcmp, 1) := by decide +kernel
theorem d_K_recover_87 : decode b_K_recover 87 = .ok (.ifCond .eq 7, 3) := by decide +kernel
theorem d_K_recover_90 : decode b_K_recover 90 = .ok (.iconst 1, 1) := by decide +kernel
theorem d_K_recover_91 : decode b_K_recover 91 = .ok (.goto 4, 3) := by decide +kernel
theorem d_K_recover_94 : decode b_K_recover 94 = .ok (.iconst 0, 1) := by decide +kernel
theorem d_K_recover_95 : decode b_K_recover 95 = .ok (.invokestatic 44, 3) := by decide +kernel
theorem d_K_recover_98 : decode b_K_recover 98 = .ok (.iload 5, 2) := by decide +kernel
theorem d_K_recover_100 : decode b_K_recover 100 = .ok (.i2l, 1) := by decide +kernel
theorem d_K_recover_101 : decode b_K_recover 101 = .ok (.iload 4, 2) := by decide +kernel
theorem d_K_recover_103 : decode b_K_recover 103 = .ok (.i2l, 1) := by decide +kernel
theorem d_K_recover_104 : decode b_K_recover 104 = .ok (.invokestatic 103, 3) := by decide +kernel
theorem d_K_recover_107 : decode b_K_recover 107 = .ok (.lstore 11, 2) := by decide +kernel
theorem d_K_recover_109 : decode b_K_recover 109 = .ok (.ldc2_w 101, 3) := by decide +kernel
theorem d_K_recover_112 : decode b_K_recover 112 = .ok (.lload_n 2, 1) := by decide +kernel
theorem d_K_recover_113 : decode b_K_recover 113 = .ok (.invokestatic 92, 3) := by decide +kernel
theorem d_K_recover_116 : decode b_K_recover 116 = .ok (.iload 4, 2) := by decide +kernel
theorem d_K_recover_118 : decode b_K_recover 118 = .ok (.i2l, 1) := by decide +kernel
theorem d_K_recover_119 : decode b_K_recover 119 = .ok (.invokestatic 103, 3) := by decide +kernel
theorem d_K_recover_122 : decode b_K_recover 122 = .ok (.lsub, 1) := by decide +kernel
theorem d_K_recover_123 : decode b_K_recover 123 = .ok (.lstore 13, 2) := by decide +kernel
theorem d_K_recover_125 : decode b_K_recover 125 = .ok (.lload 11, 2) := by decide +kernel
theorem d_K_recover_127 : decode b_K_recover 127 = .ok (.lload 9, 2) := by decide +kernel
theorem d_K_recover_129 : decode b_K_recover 129 = .ok (.lload 13, 2) := by decide +kernel
theorem d_K_recover_131 : decode b_K_recover 131 = .ok (.ldc2_w 50, 3) := by decide +kernel
theorem d_K_recover_134 : decode b_K_recover 134 = .ok (.invokestatic 85, 3) := by decide +kernel
theorem d_K_recover_137 : decode b_K_recover 137 = .ok (.lstore 15, 2) := by decide +kernel
theorem d_K_recover_139 : decode b_K_recover 139 = .ok (.lload 15, 2) := by decide +kernel
theorem d_K_recover_141 : decode b_K_recover 141 = .ok (.lconst 0, 1) := by decide +kernel
theorem d_K_recover_142 : decode b_K_recover 142 = .ok (.lcmp, 1) := by decide +kernel
theorem d_K_recover_143 : decode b_K_recover 143 = .ok (.ifCond .eq 7, 3) := by decide +kernel
theorem d_K_recover_146 : decode b_K_recover 146 = .ok (.iconst 1, 1) := by decide +kernel
theorem d_K_recover_147 : decode b_K_recover 147 = .ok (.goto 4, 3) := by decide +kernel
theorem d_K_recover_150 : decode b_K_recover 150 = .ok (.iconst 0, 1) := by decide +kernel
theorem d_K_recover_151 : decode b_K_recover 151 = .ok (.invokestatic 44, 3) := by decide +kernel
theorem d_K_recover_154 : decode b_K_recover 154 = .ok (.aload_n 0, 1) := by decide +kernel
theorem d_K_recover_155 : decode b_K_recover 155 = .ok (.iload_n 1, 1) := by decide +kernel
theorem d_K_recover_156 : decode b_K_recover 156 = .ok (.lload 15, 2) := by decide +kernel
theorem d_K_recover_158 : decode b_K_recover 158 = .ok (.lconst 0, 1) := by decide +kernel
theorem d_K_recover_159 : decode b_K_recover 159 = .ok (.invokevirtual 56, 3) := by decide +kernel
theorem d_K_recover_162 : decode b_K_recover 162 = .ok (.lreturn, 1) := by decide +kernel
theorem d_K_prove_0 : decode b_K_prove 0 = .ok (.iload_n 1, 1) := by decide +kernel
theorem d_K_prove_1 : decode b_K_prove 1 = .ok (.invokestatic 34, 3) := by decide +kernel
theorem d_K_prove_4 : decode b_K_prove 4 = .ok (.aload_n 0, 1) := by decide +kernel
theorem d_K_prove_5 : decode b_K_prove 5 = .ok (.iload_n 1, 1) := by decide +kernel
theorem d_K_prove_6 : decode b_K_prove 6 = .ok (.invokevirtual 89, 3) := by decide +kernel
theorem d_K_prove_9 : decode b_K_prove 9 = .ok (.aload_n 0, 1) := by decide +kernel
theorem d_K_prove_10 : decode b_K_prove 10 = .ok (.getfield 9, 3) := by decide +kernel
theorem d_K_prove_13 : decode b_K_prove 13 = .ok (.iload_n 1, 1) := by decide +kernel
theorem d_K_prove_14 : decode b_K_prove 14 = .ok (.laload, 1) := by decide +kernel
theorem d_K_prove_15 : decode b_K_prove 15 = .ok (.invokestatic 117, 3) := by decide +kernel
theorem d_K_prove_18 : decode b_K_prove 18 = .ok (.lstore 6, 2) := by decide +kernel
theorem d_K_prove_20 : decode b_K_prove 20 = .ok (.aload_n 0, 1) := by decide +kernel
theorem d_K_prove_21 : decode b_K_prove 21 = .ok (.getfield 9, 3) := by decide +kernel
theorem d_K_prove_24 : decode b_K_prove 24 = .ok (.iload_n 1, 1) := by decide +kernel
theorem d_K_prove_25 : decode b_K_prove 25 = .ok (.laload, 1) := by decide +kernel
theorem d_K_prove_26 : decode b_K_prove 26 = .ok (.invokestatic 98, 3) := by decide +kernel
theorem d_K_prove_29 : decode b_K_prove 29 = .ok (.lstore 8, 2) := by decide +kernel
theorem d_K_prove_31 : decode b_K_prove 31 = .ok (.lload 6, 2) := by decide +kernel
theorem d_K_prove_33 : decode b_K_prove 33 = .ok (.lload 4, 2) := by decide +kernel
theorem d_K_prove_35 : decode b_K_prove 35 = .ok (.ldc2_w 120, 3) := by decide +kernel
theorem d_K_prove_38 : decode b_K_prove 38 = .ok (.invokestatic 95, 3) := by decide +kernel
theorem d_K_prove_41 : decode b_K_prove 41 = .ok (.bipush 34, 2) := by decide +kernel
theorem d_K_prove_43 : decode b_K_prove 43 = .ok (.lushr, 1) := by decide +kernel
theorem d_K_prove_44 : decode b_K_prove 44 = .ok (.lxor, 1) := by decide +kernel
theorem d_K_prove_45 : decode b_K_prove 45 = .ok (.lstore 10, 2) := by decide +kernel
theorem d_K_prove_47 : decode b_K_prove 47 = .ok (.lload 10, 2) := by decide +kernel
theorem d_K_prove_49 : decode b_K_prove 49 = .ok (.lload 8, 2) := by decide +kernel
theorem d_K_prove_51 : decode b_K_prove 51 = .ok (.invokestatic 95, 3) := by decide +kernel
theorem d_K_prove_54 : decode b_K_prove 54 = .ok (.lload_n 2, 1) := by decide +kernel
theorem d_K_prove_55 : decode b_K_prove 55 = .ok (.invokestatic 95, 3) := by decide +kernel
theorem d_K_prove_58 : decode b_K_prove 58 = .ok (.bipush 33, 2) := by decide +kernel
theorem d_K_prove_60 : decode b_K_prove 60 = .ok (.lushr, 1) := by decide +kernel
theorem d_K_prove_61 : decode b_K_prove 61 = .ok (.ldc2_w 101, 3) := by decide +kernel
theorem d_K_prove_64 : decode b_K_prove 64 = .ok (.lrem, 1) := by decide +kernel
theorem d_K_prove_65 : decode b_K_prove 65 = .ok (.lstore 12, 2) := by decide +kernel
theorem d_K_prove_67 : decode b_K_prove 67 = .ok (.lload 12, 2) := by decide +kernel
theorem d_K_prove_69 : decode b_K_prove 69 = .ok (.lconst 0, 1) := by decide +kernel
theorem d_K_prove_70 : decode b_K_prove 70 = .ok (.lcmp, 1) := by decide +kernel
theorem d_K_prove_71 : decode b_K_prove 71 = .ok (.ifCond .ne 11, 3) := by decide +kernel
theorem d_K_prove_74 : decode b_K_prove 74 = .ok (.new 114, 3) := by decide +kernel
theorem d_K_prove_77 : decode b_K_prove 77 = .ok (.dup, 1) := by decide +kernel
theorem d_K_prove_78 : decode b_K_prove 78 = .ok (.invokespecial 116, 3) := by decide +kernel
theorem d_K_prove_81 : decode b_K_prove 81 = .ok (.athrow, 1) := by decide +kernel
theorem d_K_prove_82 : decode b_K_prove 82 = .ok (.lload 12, 2) := by decide +kernel
theorem d_K_prove_84 : decode b_K_prove 84 = .ok (.ldc2_w 50, 3) := by decide +kernel
theorem d_K_prove_87 : decode b_K_prove 87 = .ok (.invokestatic 52, 3) := by decide +kernel
theorem d_K_prove_90 : decode b_K_prove 90 = .ok (.lstore 14, 2) := by decide +kernel
theorem d_K_prove_92 : decode b_K_prove 92 = .ok (.lload 14, 2) := by decide +kernel
theorem d_K_prove_94 : decode b_K_prove 94 = .ok (.invokestatic 98, 3) := by decide +kernel
theorem d_K_prove_97 : decode b_K_prove 97 = .ok (.lstore 16, 2) := by decide +kernel
theorem d_K_prove_99 : decode b_K_prove 99 = .ok (.lload 16, 2) := by decide +kernel
theorem d_K_prove_101 : decode b_K_prove 101 = .ok (.lload 8, 2) := by decide +kernel
theorem d_K_prove_103 : decode b_K_prove 103 = .ok (.lload_n 2, 1) := by decide +kernel
theorem d_K_prove_104 : decode b_K_prove 104 = .ok (.invokestatic 122, 3) := by decide +kernel
theorem d_K_prove_107 : decode b_K_prove 107 = .ok (.lstore 18, 2) := by decide +kernel
theorem d_K_prove_109 : decode b_K_prove 109 = .ok (.lload 16, 2) := by decide +kernel
theorem d_K_prove_111 : decode b_K_prove 111 = .ok (.ldc2_w 110, 3) := by decide +kernel
theorem d_K_prove_114 : decode b_K_prove 114 = .ok (.lmul, 1) := by decide +kernel
theorem d_K_prove_115 : decode b_K_prove 115 = .ok (.lload 12, 2) := by decide +kernel
theorem d_K_prove_117 : decode b_K_prove 117 = .ok (.lload 14, 2) := by decide +kernel
theorem d_K_prove_119 : decode b_K_prove 119 = .ok (.invokestatic 117, 3) := by decide +kernel
theorem d_K_prove_122 : decode b_K_prove 122 = .ok (.lload 18, 2) := by decide +kernel
theorem d_K_prove_124 : decode b_K_prove 124 = .ok (.lload 6, 2) := by decide +kernel
theorem d_K_prove_126 : decode b_K_prove 126 = .ok (.lmul, 1) := by decide +kernel
theorem d_K_prove_127 : decode b_K_prove 127 = .ok (.ladd, 1) := by decide +kernel
theorem d_K_prove_128 : decode b_K_prove 128 = .ok (.ldc2_w 101, 3) := by decide +kernel
theorem d_K_prove_131 : decode b_K_prove 131 = .ok (.lrem, 1) := by decide +kernel
theorem d_K_prove_132 : decode b_K_prove 132 = .ok (.ladd, 1) := by decide +kernel
theorem d_K_prove_133 : decode b_K_prove 133 = .ok (.lreturn, 1) := by decide +kernel
theorem d_K_holds_0 : decode b_K_holds 0 = .ok (.iload_n 1, 1) := by decide +kernel
theorem d_K_holds_1 : decode b_K_holds 1 = .ok (.invokestatic 34, 3) := by decide +kernel
theorem d_K_holds_4 : decode b_K_holds 4 = .ok (.aload_n 0, 1) := by decide +kernel
theorem d_K_holds_5 : decode b_K_holds 5 = .ok (.iload_n 1, 1) := by decide +kernel
theorem d_K_holds_6 : decode b_K_holds 6 = .ok (.invokevirtual 71, 3) := by decide +kernel
theorem d_K_holds_9 : decode b_K_holds 9 = .ok (.invokestatic 126, 3) := by decide +kernel
theorem d_K_holds_12 : decode b_K_holds 12 = .ok (.lstore 6, 2) := by decide +kernel
theorem d_K_holds_14 : decode b_K_holds 14 = .ok (.iload 4, 2) := by decide +kernel
theorem d_K_holds_16 : decode b_K_holds 16 = .ok (.i2l, 1) := by decide +kernel
theorem d_K_holds_17 : decode b_K_holds 17 = .ok (.invokestatic 129, 3) := by decide +kernel
theorem d_K_holds_20 : decode b_K_holds 20 = .ok (.ifCond .eq 12, 3) := by decide +kernel
theorem d_K_holds_23 : decode b_K_holds 23 = .ok (.iload 5, 2) := by decide +kernel
theorem d_K_holds_25 : decode b_K_holds 25 = .ok (.i2l, 1) := by decide +kernel
theorem d_K_holds_26 : decode b_K_holds 26 = .ok (.invokestatic 75, 3) := by decide +kernel
theorem d_K_holds_29 : decode b_K_holds 29 = .ok (.ifCond .ne 5, 3) := by decide +kernel
theorem d_K_holds_32 : decode b_K_holds 32 = .ok (.iconst 0, 1) := by decide +kernel
theorem d_K_holds_33 : decode b_K_holds 33 = .ok (.ireturn, 1) := by decide +kernel
theorem d_K_holds_34 : decode b_K_holds 34 = .ok (.iload 4, 2) := by decide +kernel
theorem d_K_holds_36 : decode b_K_holds 36 = .ok (.i2l, 1) := by decide +kernel
theorem d_K_holds_37 : decode b_K_holds 37 = .ok (.lload 6, 2) := by decide +kernel
theorem d_K_holds_39 : decode b_K_holds 39 = .ok (.invokestatic 98, 3) := by decide +kernel
theorem d_K_holds_42 : decode b_K_holds 42 = .ok (.lload_n 2, 1) := by decide +kernel
theorem d_K_holds_43 : decode b_K_holds 43 = .ok (.invokestatic 122, 3) := by decide +kernel
theorem d_K_holds_46 : decode b_K_holds 46 = .ok (.lstore 8, 2) := by decide +kernel
theorem d_K_holds_48 : decode b_K_holds 48 = .ok (.iload 5, 2) := by decide +kernel
theorem d_K_holds_50 : decode b_K_holds 50 = .ok (.i2l, 1) := by decide +kernel
theorem d_K_holds_51 : decode b_K_holds 51 = .ok (.ldc2_w 50, 3) := by decide +kernel
theorem d_K_holds_54 : decode b_K_holds 54 = .ok (.ldc2_w 101, 3) := by decide +kernel
theorem d_K_holds_57 : decode b_K_holds 57 = .ok (.lload 8, 2) := by decide +kernel
theorem d_K_holds_59 : decode b_K_holds 59 = .ok (.lsub, 1) := by decide +kernel
theorem d_K_holds_60 : decode b_K_holds 60 = .ok (.lload 6, 2) := by decide +kernel
theorem d_K_holds_62 : decode b_K_holds 62 = .ok (.invokestatic 85, 3) := by decide +kernel
theorem d_K_holds_65 : decode b_K_holds 65 = .ok (.lstore 10, 2) := by decide +kernel
theorem d_K_holds_67 : decode b_K_holds 67 = .ok (.lload 10, 2) := by decide +kernel
theorem d_K_holds_69 : decode b_K_holds 69 = .ok (.lconst 0, 1) := by decide +kernel
theorem d_K_holds_70 : decode b_K_holds 70 = .ok (.lcmp, 1) := by decide +kernel
theorem d_K_holds_71 : decode b_K_holds 71 = .ok (.ifCond .eq 27, 3) := by decide +kernel
theorem d_K_holds_74 : decode b_K_holds 74 = .ok (.lload 10, 2) := by decide +kernel
theorem d_K_holds_76 : decode b_K_holds 76 = .ok (.invokestatic 132, 3) := by decide +kernel
theorem d_K_holds_79 : decode b_K_holds 79 = .ok (.ifCond .ne 19, 3) := by decide +kernel
theorem d_K_holds_82 : decode b_K_holds 82 = .ok (.lload 10, 2) := by decide +kernel
theorem d_K_holds_84 : decode b_K_holds 84 = .ok (.invokestatic 98, 3) := by decide +kernel
theorem d_K_holds_87 : decode b_K_holds 87 = .ok (.iload 4, 2) := by decide +kernel
theorem d_K_holds_89 : decode b_K_holds 89 = .ok (.i2l, 1) := by decide +kernel
theorem d_K_holds_90 : decode b_K_holds 90 = .ok (.lcmp, 1) := by decide +kernel
theorem d_K_holds_91 : decode b_K_holds 91 = .ok (.ifCond .ne 7, 3) := by decide +kernel
theorem d_K_holds_94 : decode b_K_holds 94 = .ok (.iconst 1, 1) := by decide +kernel
theorem d_K_holds_95 : decode b_K_holds 95 = .ok (.goto 4, 3) := by decide +kernel
theorem d_K_holds_98 : decode b_K_holds 98 = .ok (.iconst 0, 1) := by decide +kernel
theorem d_K_holds_99 : decode b_K_holds 99 = .ok (.ireturn, 1) := by decide +kernel
theorem d_K_bundle_0 : decode b_K_bundle 0 = .ok (.iload_n 1, 1) := by decide +kernel
theorem d_K_bundle_1 : decode b_K_bundle 1 = .ok (.invokestatic 34, 3) := by decide +kernel
theorem d_K_bundle_4 : decode b_K_bundle 4 = .ok (.aload_n 0, 1) := by decide +kernel
theorem d_K_bundle_5 : decode b_K_bundle 5 = .ok (.iload_n 1, 1) := by decide +kernel
theorem d_K_bundle_6 : decode b_K_bundle 6 = .ok (.invokevirtual 71, 3) := by decide +kernel
theorem d_K_bundle_9 : decode b_K_bundle 9 = .ok (.lstore 6, 2) := by decide +kernel
theorem d_K_bundle_11 : decode b_K_bundle 11 = .ok (.aload_n 0, 1) := by decide +kernel
theorem d_K_bundle_12 : decode b_K_bundle 12 = .ok (.getfield 19, 3) := by decide +kernel
theorem d_K_bundle_15 : decode b_K_bundle 15 = .ok (.invokevirtual 135, 3) := by decide +kernel
theorem d_K_bundle_18 : decode b_K_bundle 18 = .ok (.ifCond .eq 11, 3) := by decide +kernel
theorem d_K_bundle_21 : decode b_K_bundle 21 = .ok (.new 114, 3) := by decide +kernel
theorem d_K_bundle_24 : decode b_K_bundle 24 = .ok (.dup, 1) := by decide +kernel
theorem d_K_bundle_25 : decode b_K_bundle 25 = .ok (.invokespecial 116, 3) := by decide +kernel
theorem d_K_bundle_28 : decode b_K_bundle 28 = .ok (.athrow, 1) := by decide +kernel
theorem d_K_bundle_29 : decode b_K_bundle 29 = .ok (.aload_n 0, 1) := by decide +kernel
theorem d_K_bundle_30 : decode b_K_bundle 30 = .ok (.getfield 19, 3) := by decide +kernel
theorem d_K_bundle_33 : decode b_K_bundle 33 = .ok (.lload 6, 2) := by decide +kernel
theorem d_K_bundle_35 : decode b_K_bundle 35 = .ok (.lload_n 2, 1) := by decide +kernel
theorem d_K_bundle_36 : decode b_K_bundle 36 = .ok (.iload 4, 2) := by decide +kernel
theorem d_K_bundle_38 : decode b_K_bundle 38 = .ok (.iload 5, 2) := by decide +kernel
theorem d_K_bundle_40 : decode b_K_bundle 40 = .ok (.invokevirtual 139, 3) := by decide +kernel
theorem d_K_bundle_43 : decode b_K_bundle 43 = .ok (.ireturn, 1) := by decide +kernel
theorem d_K_agree_0 : decode b_K_agree 0 = .ok (.iload_n 1, 1) := by decide +kernel
theorem d_K_agree_1 : decode b_K_agree 1 = .ok (.invokestatic 34, 3) := by decide +kernel
theorem d_K_agree_4 : decode b_K_agree 4 = .ok (.iload_n 2, 1) := by decide +kernel
theorem d_K_agree_5 : decode b_K_agree 5 = .ok (.invokestatic 34, 3) := by decide +kernel
theorem d_K_agree_8 : decode b_K_agree 8 = .ok (.aload_n 0, 1) := by decide +kernel
theorem d_K_agree_9 : decode b_K_agree 9 = .ok (.iload_n 1, 1) := by decide +kernel
theorem d_K_agree_10 : decode b_K_agree 10 = .ok (.invokevirtual 89, 3) := by decide +kernel
theorem d_K_agree_13 : decode b_K_agree 13 = .ok (.lstore_n 3, 1) := by decide +kernel
theorem d_K_agree_14 : decode b_K_agree 14 = .ok (.lload_n 3, 1) := by decide +kernel
theorem d_K_agree_15 : decode b_K_agree 15 = .ok (.aload_n 0, 1) := by decide +kernel
theorem d_K_agree_16 : decode b_K_agree 16 = .ok (.iload_n 2, 1) := by decide +kernel
theorem d_K_agree_17 : decode b_K_agree 17 = .ok (.invokevirtual 71, 3) := by decide +kernel
theorem d_K_agree_20 : decode b_K_agree 20 = .ok (.invokestatic 52, 3) := by decide +kernel
theorem d_K_agree_23 : decode b_K_agree 23 = .ok (.lstore 5, 2) := by decide +kernel
theorem d_K_agree_25 : decode b_K_agree 25 = .ok (.lload 5, 2) := by decide +kernel
theorem d_K_agree_27 : decode b_K_agree 27 = .ok (.invokestatic 98, 3) := by decide +kernel
theorem d_K_agree_30 : decode b_K_agree 30 = .ok (.lload 5, 2) := by decide +kernel
theorem d_K_agree_32 : decode b_K_agree 32 = .ok (.invokestatic 149, 3) := by decide +kernel
theorem d_K_agree_35 : decode b_K_agree 35 = .ok (.invokestatic 95, 3) := by decide +kernel
theorem d_K_agree_38 : decode b_K_agree 38 = .ok (.lreturn, 1) := by decide +kernel
theorem d_K_written_0 : decode b_K_written 0 = .ok (.iload_n 1, 1) := by decide +kernel
theorem d_K_written_1 : decode b_K_written 1 = .ok (.ifCond .lt 11, 3) := by decide +kernel
theorem d_K_written_4 : decode b_K_written 4 = .ok (.iload_n 2, 1) := by decide +kernel
theorem d_K_written_5 : decode b_K_written 5 = .ok (.ifCond .lt 7, 3) := by decide +kernel
theorem d_K_written_8 : decode b_K_written 8 = .ok (.iconst 1, 1) := by decide +kernel
theorem d_K_written_9 : decode b_K_written 9 = .ok (.goto 4, 3) := by decide +kernel
theorem d_K_written_12 : decode b_K_written 12 = .ok (.iconst 0, 1) := by decide +kernel
theorem d_K_written_13 : decode b_K_written 13 = .ok (.invokestatic 44, 3) := by decide +kernel
theorem d_K_written_16 : decode b_K_written 16 = .ok (.iload_n 1, 1) := by decide +kernel
theorem d_K_written_17 : decode b_K_written 17 = .ok (.iload_n 2, 1) := by decide +kernel
theorem d_K_written_18 : decode b_K_written 18 = .ok (.invokestatic 152, 3) := by decide +kernel
theorem d_K_written_21 : decode b_K_written 21 = .ok (.istore 4, 2) := by decide +kernel
theorem d_K_written_23 : decode b_K_written 23 = .ok (.iload_n 3, 1) := by decide +kernel
theorem d_K_written_24 : decode b_K_written 24 = .ok (.iconst (-1), 1) := by decide +kernel
theorem d_K_written_25 : decode b_K_written 25 = .ok (.if_icmp .lt 13, 3) := by decide +kernel
theorem d_K_written_28 : decode b_K_written 28 = .ok (.iload_n 3, 1) := by decide +kernel
theorem d_K_written_29 : decode b_K_written 29 = .ok (.iload 4, 2) := by decide +kernel
theorem d_K_written_31 : decode b_K_written 31 = .ok (.if_icmp .ge 7, 3) := by decide +kernel
theorem d_K_written_34 : decode b_K_written 34 = .ok (.iconst 1, 1) := by decide +kernel
theorem d_K_written_35 : decode b_K_written 35 = .ok (.goto 4, 3) := by decide +kernel
theorem d_K_written_38 : decode b_K_written 38 = .ok (.iconst 0, 1) := by decide +kernel
theorem d_K_written_39 : decode b_K_written 39 = .ok (.invokestatic 44, 3) := by decide +kernel
theorem d_K_written_42 : decode b_K_written 42 = .ok (.iload_n 3, 1) := by decide +kernel
theorem d_K_written_43 : decode b_K_written 43 = .ok (.iconst (-1), 1) := by decide +kernel
theorem d_K_written_44 : decode b_K_written 44 = .ok (.if_icmp .ne 8, 3) := by decide +kernel
theorem d_K_written_47 : decode b_K_written 47 = .ok (.iload 4, 2) := by decide +kernel
theorem d_K_written_49 : decode b_K_written 49 = .ok (.goto 9, 3) := by decide +kernel
theorem d_K_written_52 : decode b_K_written 52 = .ok (.iload_n 1, 1) := by decide +kernel
theorem d_K_written_53 : decode b_K_written 53 = .ok (.iload_n 2, 1) := by decide +kernel
theorem d_K_written_54 : decode b_K_written 54 = .ok (.iload_n 3, 1) := by decide +kernel
theorem d_K_written_55 : decode b_K_written 55 = .ok (.invokestatic 158, 3) := by decide +kernel
theorem d_K_written_58 : decode b_K_written 58 = .ok (.ireturn, 1) := by decide +kernel
theorem d_K_type_0 : decode b_K_type 0 = .ok (.iload_n 1, 1) := by decide +kernel
theorem d_K_type_1 : decode b_K_type 1 = .ok (.ifCond .lt 14, 3) := by decide +kernel
theorem d_K_type_4 : decode b_K_type 4 = .ok (.iload_n 1, 1) := by decide +kernel
theorem d_K_type_5 : decode b_K_type 5 = .ok (.sipush 255, 3) := by decide +kernel
theorem d_K_type_8 : decode b_K_type 8 = .ok (.if_icmp .gt 7, 3) := by decide +kernel
theorem d_K_type_11 : decode b_K_type 11 = .ok (.iconst 1, 1) := by decide +kernel
theorem d_K_type_12 : decode b_K_type 12 = .ok (.goto 4, 3) := by decide +kernel
theorem d_K_type_15 : decode b_K_type 15 = .ok (.iconst 0, 1) := by decide +kernel
theorem d_K_type_16 : decode b_K_type 16 = .ok (.invokestatic 44, 3) := by decide +kernel
theorem d_K_type_19 : decode b_K_type 19 = .ok (.aload_n 0, 1) := by decide +kernel
theorem d_K_type_20 : decode b_K_type 20 = .ok (.getfield 26, 3) := by decide +kernel
theorem d_K_type_23 : decode b_K_type 23 = .ok (.invokevirtual 162, 3) := by decide +kernel
theorem d_K_type_26 : decode b_K_type 26 = .ok (.ifCond .eq 11, 3) := by decide +kernel
theorem d_K_type_29 : decode b_K_type 29 = .ok (.new 114, 3) := by decide +kernel
theorem d_K_type_32 : decode b_K_type 32 = .ok (.dup, 1) := by decide +kernel
theorem d_K_type_33 : decode b_K_type 33 = .ok (.invokespecial 116, 3) := by decide +kernel
theorem d_K_type_36 : decode b_K_type 36 = .ok (.athrow, 1) := by decide +kernel
theorem d_K_type_37 : decode b_K_type 37 = .ok (.aload_n 0, 1) := by decide +kernel
theorem d_K_type_38 : decode b_K_type 38 = .ok (.getfield 26, 3) := by decide +kernel
theorem d_K_type_41 : decode b_K_type 41 = .ok (.iload_n 1, 1) := by decide +kernel
theorem d_K_type_42 : decode b_K_type 42 = .ok (.invokevirtual 165, 3) := by decide +kernel
theorem d_K_type_45 : decode b_K_type 45 = .ok (.ireturn, 1) := by decide +kernel
