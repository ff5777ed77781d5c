theorem d_L_secret_0 : decode b_L_secret 0 = .ok (.aload_n 3, 1) := by decide +kernel
theorem d_L_secret_1 : decode b_L_secret 1 = .ok (.iconst 0, 1) := by decide +kernel
theorem d_L_secret_2 : decode b_L_secret 2 = .ok (.aload_n 0, 1) := by decide +kernel
theorem d_L_secret_3 : decode b_L_secret 3 = .ok (.iload_n 1, 1) := by decide +kernel
theorem d_L_secret_4 : decode b_L_secret 4 = .ok (.iload_n 2, 1) := by decide +kernel
theorem d_L_secret_5 : decode b_L_secret 5 = .ok (.invokevirtual 7, 3) := by decide +kernel
theorem d_L_secret_8 : decode b_L_secret 8 = .ok (.lastore, 1) := by decide +kernel
theorem d_L_secret_9 : decode b_L_secret 9 = .ok (.goto 11, 3) := by decide +kernel
theorem d_L_secret_12 : decode b_L_secret 12 = .ok (.astore 4, 2) := by decide +kernel
theorem d_L_secret_14 : decode b_L_secret 14 = .ok (.iconst 1, 1) := by decide +kernel
theorem d_L_secret_15 : decode b_L_secret 15 = .ok (.ireturn, 1) := by decide +kernel
theorem d_L_secret_16 : decode b_L_secret 16 = .ok (.astore 4, 2) := by decide +kernel
theorem d_L_secret_18 : decode b_L_secret 18 = .ok (.iconst 2, 1) := by decide +kernel
theorem d_L_secret_19 : decode b_L_secret 19 = .ok (.ireturn, 1) := by decide +kernel
theorem d_L_secret_20 : decode b_L_secret 20 = .ok (.iconst 0, 1) := by decide +kernel
theorem d_L_secret_21 : decode b_L_secret 21 = .ok (.ireturn, 1) := by decide +kernel
theorem d_L_open_0 : decode b_L_open 0 = .ok (.aload_n 0, 1) := by decide +kernel
theorem d_L_open_1 : decode b_L_open 1 = .ok (.iload_n 1, 1) := by decide +kernel
theorem d_L_open_2 : decode b_L_open 2 = .ok (.lload_n 2, 1) := by decide +kernel
theorem d_L_open_3 : decode b_L_open 3 = .ok (.invokevirtual 17, 3) := by decide +kernel
theorem d_L_open_6 : decode b_L_open 6 = .ok (.goto 11, 3) := by decide +kernel
theorem d_L_open_9 : decode b_L_open 9 = .ok (.astore 4, 2) := by decide +kernel
theorem d_L_open_11 : decode b_L_open 11 = .ok (.iconst 1, 1) := by decide +kernel
theorem d_L_open_12 : decode b_L_open 12 = .ok (.ireturn, 1) := by decide +kernel
theorem d_L_open_13 : decode b_L_open 13 = .ok (.astore 4, 2) := by decide +kernel
theorem d_L_open_15 : decode b_L_open 15 = .ok (.iconst 2, 1) := by decide +kernel
theorem d_L_open_16 : decode b_L_open 16 = .ok (.ireturn, 1) := by decide +kernel
theorem d_L_open_17 : decode b_L_open 17 = .ok (.iconst 0, 1) := by decide +kernel
theorem d_L_open_18 : decode b_L_open 18 = .ok (.ireturn, 1) := by decide +kernel
theorem d_L_code_0 : decode b_L_code 0 = .ok (.aload_n 2, 1) := by decide +kernel
theorem d_L_code_1 : decode b_L_code 1 = .ok (.iconst 0, 1) := by decide +kernel
theorem d_L_code_2 : decode b_L_code 2 = .ok (.aload_n 0, 1) := by decide +kernel
theorem d_L_code_3 : decode b_L_code 3 = .ok (.iload_n 1, 1) := by decide +kernel
theorem d_L_code_4 : decode b_L_code 4 = .ok (.invokevirtual 21, 3) := by decide +kernel
theorem d_L_code_7 : decode b_L_code 7 = .ok (.lastore, 1) := by decide +kernel
theorem d_L_code_8 : decode b_L_code 8 = .ok (.goto 6, 3) := by decide +kernel
theorem d_L_code_11 : decode b_L_code 11 = .ok (.astore_n 3, 1) := by decide +kernel
theorem d_L_code_12 : decode b_L_code 12 = .ok (.iconst 1, 1) := by decide +kernel
theorem d_L_code_13 : decode b_L_code 13 = .ok (.ireturn, 1) := by decide +kernel
theorem d_L_code_14 : decode b_L_code 14 = .ok (.iconst 0, 1) := by decide +kernel
theorem d_L_code_15 : decode b_L_code 15 = .ok (.ireturn, 1) := by decide +kernel
theorem d_L_tweak_0 : decode b_L_tweak 0 = .ok (.aload 4, 2) := by decide +kernel
theorem d_L_tweak_2 : decode b_L_tweak 2 = .ok (.iconst 0, 1) := by decide +kernel
theorem d_L_tweak_3 : decode b_L_tweak 3 = .ok (.aload_n 0, 1) := by decide +kernel
theorem d_L_tweak_4 : decode b_L_tweak 4 = .ok (.iload_n 1, 1) := by decide +kernel
theorem d_L_tweak_5 : decode b_L_tweak 5 = .ok (.iload_n 2, 1) := by decide +kernel
theorem d_L_tweak_6 : decode b_L_tweak 6 = .ok (.iload_n 3, 1) := by decide +kernel
theorem d_L_tweak_7 : decode b_L_tweak 7 = .ok (.invokevirtual 25, 3) := by decide +kernel
theorem d_L_tweak_10 : decode b_L_tweak 10 = .ok (.lastore, 1) := by decide +kernel
theorem d_L_tweak_11 : decode b_L_tweak 11 = .ok (.goto 15, 3) := by decide +kernel
theorem d_L_tweak_14 : decode b_L_tweak 14 = .ok (.astore 5, 2) := by decide +kernel
theorem d_L_tweak_16 : decode b_L_tweak 16 = .ok (.iconst 1, 1) := by decide +kernel
theorem d_L_tweak_17 : decode b_L_tweak 17 = .ok (.ireturn, 1) := by decide +kernel
theorem d_L_tweak_18 : decode b_L_tweak 18 = .ok (.astore 5, 2) := by decide +kernel
theorem d_L_tweak_20 : decode b_L_tweak 20 = .ok (.iconst 2, 1) := by decide +kernel
theorem d_L_tweak_21 : decode b_L_tweak 21 = .ok (.ireturn, 1) := by decide +kernel
theorem d_L_tweak_22 : decode b_L_tweak 22 = .ok (.astore 5, 2) := by decide +kernel
theorem d_L_tweak_24 : decode b_L_tweak 24 = .ok (.iconst 3, 1) := by decide +kernel
theorem d_L_tweak_25 : decode b_L_tweak 25 = .ok (.ireturn, 1) := by decide +kernel
theorem d_L_tweak_26 : decode b_L_tweak 26 = .ok (.iconst 0, 1) := by decide +kernel
theorem d_L_tweak_27 : decode b_L_tweak 27 = .ok (.ireturn, 1) := by decide +kernel
theorem d_L_combine_0 : decode b_L_combine 0 = .ok (.aload 4, 2) := by decide +kernel
theorem d_L_combine_2 : decode b_L_combine 2 = .ok (.iconst 0, 1) := by decide +kernel
theorem d_L_combine_3 : decode b_L_combine 3 = .ok (.aload_n 0, 1) := by decide +kernel
theorem d_L_combine_4 : decode b_L_combine 4 = .ok (.iload_n 1, 1) := by decide +kernel
theorem d_L_combine_5 : decode b_L_combine 5 = .ok (.iload_n 2, 1) := by decide +kernel
theorem d_L_combine_6 : decode b_L_combine 6 = .ok (.iload_n 3, 1) := by decide +kernel
theorem d_L_combine_7 : decode b_L_combine 7 = .ok (.invokevirtual 31, 3) := by decide +kernel
theorem d_L_combine_10 : decode b_L_combine 10 = .ok (.lastore, 1) := by decide +kernel
theorem d_L_combine_11 : decode b_L_combine 11 = .ok (.goto 15, 3) := by decide +kernel
theorem d_L_combine_14 : decode b_L_combine 14 = .ok (.astore 5, 2) := by decide +kernel
theorem d_L_combine_16 : decode b_L_combine 16 = .ok (.iconst 1, 1) := by decide +kernel
theorem d_L_combine_17 : decode b_L_combine 17 = .ok (.ireturn, 1) := by decide +kernel
theorem d_L_combine_18 : decode b_L_combine 18 = .ok (.astore 5, 2) := by decide +kernel
theorem d_L_combine_20 : decode b_L_combine 20 = .ok (.iconst 2, 1) := by decide +kernel
theorem d_L_combine_21 : decode b_L_combine 21 = .ok (.ireturn, 1) := by decide +kernel
theorem d_L_combine_22 : decode b_L_combine 22 = .ok (.astore 5, 2) := by decide +kernel
theorem d_L_combine_24 : decode b_L_combine 24 = .ok (.iconst 3, 1) := by decide +kernel
theorem d_L_combine_25 : decode b_L_combine 25 = .ok (.ireturn, 1) := by decide +kernel
theorem d_L_combine_26 : decode b_L_combine 26 = .ok (.iconst 0, 1) := by decide +kernel
theorem d_L_combine_27 : decode b_L_combine 27 = .ok (.ireturn, 1) := by decide +kernel
theorem d_L_linear_0 : decode b_L_linear 0 = .ok (.aload 4, 2) := by decide +kernel
theorem d_L_linear_2 : decode b_L_linear 2 = .ok (.iconst 0, 1) := by decide +kernel
theorem d_L_linear_3 : decode b_L_linear 3 = .ok (.aload_n 0, 1) := by decide +kernel
theorem d_L_linear_4 : decode b_L_linear 4 = .ok (.iload_n 1, 1) := by decide +kernel
theorem d_L_linear_5 : decode b_L_linear 5 = .ok (.iload_n 2, 1) := by decide +kernel
theorem d_L_linear_6 : decode b_L_linear 6 = .ok (.iload_n 3, 1) := by decide +kernel
theorem d_L_linear_7 : decode b_L_linear 7 = .ok (.invokevirtual 35, 3) := by decide +kernel
theorem d_L_linear_10 : decode b_L_linear 10 = .ok (.lastore, 1) := by decide +kernel
theorem d_L_linear_11 : decode b_L_linear 11 = .ok (.goto 15, 3) := by decide +kernel
theorem d_L_linear_14 : decode b_L_linear 14 = .ok (.astore 5, 2) := by decide +kernel
theorem d_L_linear_16 : decode b_L_linear 16 = .ok (.iconst 1, 1) := by decide +kernel
theorem d_L_linear_17 : decode b_L_linear 17 = .ok (.ireturn, 1) := by decide +kernel
theorem d_L_linear_18 : decode b_L_linear 18 = .ok (.astore 5, 2) := by decide +kernel
theorem d_L_linear_20 : decode b_L_linear 20 = .ok (.iconst 2, 1) := by decide +kernel
theorem d_L_linear_21 : decode b_L_linear 21 = .ok (.ireturn, 1) := by decide +kernel
theorem d_L_linear_22 : decode b_L_linear 22 = .ok (.astore 5, 2) := by decide +kernel
theorem d_L_linear_24 : decode b_L_linear 24 = .ok (.iconst 3, 1) := by decide +kernel
theorem d_L_linear_25 : decode b_L_linear 25 = .ok (.ireturn, 1) := by decide +kernel
theorem d_L_linear_26 : decode b_L_linear 26 = .ok (.iconst 0, 1) := by decide +kernel
theorem d_L_linear_27 : decode b_L_linear 27 = .ok (.ireturn, 1) := by decide +kernel
theorem d_L_sign_0 : decode b_L_sign 0 = .ok (.aload 4, 2) := by decide +kernel
theorem d_L_sign_2 : decode b_L_sign 2 = .ok (.iconst 0, 1) := by decide +kernel
theorem d_L_sign_3 : decode b_L_sign 3 = .ok (.aload_n 0, 1) := by decide +kernel
theorem d_L_sign_4 : decode b_L_sign 4 = .ok (.iload_n 1, 1) := by decide +kernel
theorem d_L_sign_5 : decode b_L_sign 5 = .ok (.lload_n 2, 1) := by decide +kernel
theorem d_L_sign_6 : decode b_L_sign 6 = .ok (.invokevirtual 38, 3) := by decide +kernel
theorem d_L_sign_9 : decode b_L_sign 9 = .ok (.lastore, 1) := by decide +kernel
theorem d_L_sign_10 : decode b_L_sign 10 = .ok (.goto 15, 3) := by decide +kernel
theorem d_L_sign_13 : decode b_L_sign 13 = .ok (.astore 5, 2) := by decide +kernel
theorem d_L_sign_15 : decode b_L_sign 15 = .ok (.iconst 1, 1) := by decide +kernel
theorem d_L_sign_16 : decode b_L_sign 16 = .ok (.ireturn, 1) := by decide +kernel
theorem d_L_sign_17 : decode b_L_sign 17 = .ok (.astore 5, 2) := by decide +kernel
theorem d_L_sign_19 : decode b_L_sign 19 = .ok (.iconst 2, 1) := by decide +kernel
theorem d_L_sign_20 : decode b_L_sign 20 = .ok (.ireturn, 1) := by decide +kernel
theorem d_L_sign_21 : decode b_L_sign 21 = .ok (.astore 5, 2) := by decide +kernel
theorem d_L_sign_23 : decode b_L_sign 23 = .ok (.iconst 3, 1) := by decide +kernel
theorem d_L_sign_24 : decode b_L_sign 24 = .ok (.ireturn, 1) := by decide +kernel
theorem d_L_sign_25 : decode b_L_sign 25 = .ok (.iconst 0, 1) := by decide +kernel
theorem d_L_sign_26 : decode b_L_sign 26 = .ok (.ireturn, 1) := by decide +kernel
theorem d_L_good_0 : decode b_L_good 0 = .ok (.aload 6, 2) := by decide +kernel
theorem d_L_good_2 : decode b_L_good 2 = .ok (.iconst 0, 1) := by decide +kernel
theorem d_L_good_3 : decode b_L_good 3 = .ok (.aload_n 0, 1) := by decide +kernel
theorem d_L_good_4 : decode b_L_good 4 = .ok (.iload_n 1, 1) := by decide +kernel
theorem d_L_good_5 : decode b_L_good 5 = .ok (.lload_n 2, 1) := by decide +kernel
theorem d_L_good_6 : decode b_L_good 6 = .ok (.iload 4, 2) := by decide +kernel
theorem d_L_good_8 : decode b_L_good 8 = .ok (.iload 5, 2) := by decide +kernel
theorem d_L_good_10 : decode b_L_good 10 = .ok (.invokevirtual 46, 3) := by decide +kernel
theorem d_L_good_13 : decode b_L_good 13 = .ok (.ifCond .eq 7, 3) := by decide +kernel
theorem d_L_good_16 : decode b_L_good 16 = .ok (.lconst 1, 1) := by decide +kernel
theorem d_L_good_17 : decode b_L_good 17 = .ok (.goto 4, 3) := by decide +kernel
theorem d_L_good_20 : decode b_L_good 20 = .ok (.lconst 0, 1) := by decide +kernel
theorem d_L_good_21 : decode b_L_good 21 = .ok (.lastore, 1) := by decide +kernel
theorem d_L_good_22 : decode b_L_good 22 = .ok (.goto 11, 3) := by decide +kernel
theorem d_L_good_25 : decode b_L_good 25 = .ok (.astore 7, 2) := by decide +kernel
theorem d_L_good_27 : decode b_L_good 27 = .ok (.iconst 1, 1) := by decide +kernel
theorem d_L_good_28 : decode b_L_good 28 = .ok (.ireturn, 1) := by decide +kernel
theorem d_L_good_29 : decode b_L_good 29 = .ok (.astore 7, 2) := by decide +kernel
theorem d_L_good_31 : decode b_L_good 31 = .ok (.iconst 2, 1) := by decide +kernel
theorem d_L_good_32 : decode b_L_good 32 = .ok (.ireturn, 1) := by decide +kernel
theorem d_L_good_33 : decode b_L_good 33 = .ok (.iconst 0, 1) := by decide +kernel
theorem d_L_good_34 : decode b_L_good 34 = .ok (.ireturn, 1) := by decide +kernel
theorem d_L_recover_0 : decode b_L_recover 0 = .ok (.aload 7, 2) := by decide +kernel
theorem d_L_recover_2 : decode b_L_recover 2 = .ok (.iconst 0, 1) := by decide +kernel
theorem d_L_recover_3 : decode b_L_recover 3 = .ok (.aload_n 0, 1) := by decide +kernel
theorem d_L_recover_4 : decode b_L_recover 4 = .ok (.iload_n 1, 1) := by decide +kernel
theorem d_L_recover_5 : decode b_L_recover 5 = .ok (.lload_n 2, 1) := by decide +kernel
theorem d_L_recover_6 : decode b_L_recover 6 = .ok (.iload 4, 2) := by decide +kernel
theorem d_L_recover_8 : decode b_L_recover 8 = .ok (.iload 5, 2) := by decide +kernel
theorem d_L_recover_10 : decode b_L_recover 10 = .ok (.iload 6, 2) := by decide +kernel
theorem d_L_recover_12 : decode b_L_recover 12 = .ok (.invokevirtual 50, 3) := by decide +kernel
theorem d_L_recover_15 : decode b_L_recover 15 = .ok (.lastore, 1) := by decide +kernel
theorem d_L_recover_16 : decode b_L_recover 16 = .ok (.goto 11, 3) := by decide +kernel
theorem d_L_recover_19 : decode b_L_recover 19 = .ok (.astore 8, 2) := by decide +kernel
theorem d_L_recover_21 : decode b_L_recover 21 = .ok (.iconst 1, 1) := by decide +kernel
theorem d_L_recover_22 : decode b_L_recover 22 = .ok (.ireturn, 1) := by decide +kernel
theorem d_L_recover_23 : decode b_L_recover 23 = .ok (.astore 8, 2) := by decide +kernel
theorem d_L_recover_25 : decode b_L_recover 25 = .ok (.iconst 2, 1) := by decide +kernel
theorem d_L_recover_26 : decode b_L_recover 26 = .ok (.ireturn, 1) := by decide +kernel
theorem d_L_recover_27 : decode b_L_recover 27 = .ok (.iconst 0, 1) := by decide +kernel
theorem d_L_recover_28 : decode b_L_recover 28 = .ok (.ireturn, 1) := by decide +kernel
theorem d_L_prove_0 : decode b_L_prove 0 = .ok (.aload 6, 2) := by decide +kernel
theorem d_L_prove_2 : decode b_L_prove 2 = .ok (.iconst 0, 1) := by decide +kernel
theorem d_L_prove_3 : decode b_L_prove 3 = .ok (.aload_n 0, 1) := by decide +kernel
theorem d_L_prove_4 : decode b_L_prove 4 = .ok (.iload_n 1, 1) := by decide +kernel
theorem d_L_prove_5 : decode b_L_prove 5 = .ok (.lload_n 2, 1) := by decide +kernel
theorem d_L_prove_6 : decode b_L_prove 6 = .ok (.lload 4, 2) := by decide +kernel
theorem d_L_prove_8 : decode b_L_prove 8 = .ok (.invokevirtual 54, 3) := by decide +kernel
theorem d_L_prove_11 : decode b_L_prove 11 = .ok (.lastore, 1) := by decide +kernel
theorem d_L_prove_12 : decode b_L_prove 12 = .ok (.goto 15, 3) := by decide +kernel
theorem d_L_prove_15 : decode b_L_prove 15 = .ok (.astore 7, 2) := by decide +kernel
theorem d_L_prove_17 : decode b_L_prove 17 = .ok (.iconst 1, 1) := by decide +kernel
theorem d_L_prove_18 : decode b_L_prove 18 = .ok (.ireturn, 1) := by decide +kernel
theorem d_L_prove_19 : decode b_L_prove 19 = .ok (.astore 7, 2) := by decide +kernel
theorem d_L_prove_21 : decode b_L_prove 21 = .ok (.iconst 2, 1) := by decide +kernel
theorem d_L_prove_22 : decode b_L_prove 22 = .ok (.ireturn, 1) := by decide +kernel
theorem d_L_prove_23 : decode b_L_prove 23 = .ok (.astore 7, 2) := by decide +kernel
theorem d_L_prove_25 : decode b_L_prove 25 = .ok (.iconst 3, 1) := by decide +kernel
theorem d_L_prove_26 : decode b_L_prove 26 = .ok (.ireturn, 1) := by decide +kernel
theorem d_L_prove_27 : decode b_L_prove 27 = .ok (.iconst 0, 1) := by decide +kernel
theorem d_L_prove_28 : decode b_L_prove 28 = .ok (.ireturn, 1) := by decide +kernel
theorem d_L_holds_0 : decode b_L_holds 0 = .ok (.aload 6, 2) := by decide +kernel
theorem d_L_holds_2 : decode b_L_holds 2 = .ok (.iconst 0, 1) := by decide +kernel
theorem d_L_holds_3 : decode b_L_holds 3 = .ok (.aload_n 0, 1) := by decide +kernel
theorem d_L_holds_4 : decode b_L_holds 4 = .ok (.iload_n 1, 1) := by decide +kernel
theorem d_L_holds_5 : decode b_L_holds 5 = .ok (.lload_n 2, 1) := by decide +kernel
theorem d_L_holds_6 : decode b_L_holds 6 = .ok (.iload 4, 2) := by decide +kernel
theorem d_L_holds_8 : decode b_L_holds 8 = .ok (.iload 5, 2) := by decide +kernel
theorem d_L_holds_10 : decode b_L_holds 10 = .ok (.invokevirtual 58, 3) := by decide +kernel
theorem d_L_holds_13 : decode b_L_holds 13 = .ok (.ifCond .eq 7, 3) := by decide +kernel
theorem d_L_holds_16 : decode b_L_holds 16 = .ok (.lconst 1, 1) := by decide +kernel
theorem d_L_holds_17 : decode b_L_holds 17 = .ok (.goto 4, 3) := by decide +kernel
theorem d_L_holds_20 : decode b_L_holds 20 = .ok (.lconst 0, 1) := by decide +kernel
theorem d_L_holds_21 : decode b_L_holds 21 = .ok (.lastore, 1) := by decide +kernel
theorem d_L_holds_22 : decode b_L_holds 22 = .ok (.goto 11, 3) := by decide +kernel
theorem d_L_holds_25 : decode b_L_holds 25 = .ok (.astore 7, 2) := by decide +kernel
theorem d_L_holds_27 : decode b_L_holds 27 = .ok (.iconst 1, 1) := by decide +kernel
theorem d_L_holds_28 : decode b_L_holds 28 = .ok (.ireturn, 1) := by decide +kernel
theorem d_L_holds_29 : decode b_L_holds 29 = .ok (.astore 7, 2) := by decide +kernel
theorem d_L_holds_31 : decode b_L_holds 31 = .ok (.iconst 2, 1) := by decide +kernel
theorem d_L_holds_32 : decode b_L_holds 32 = .ok (.ireturn, 1) := by decide +kernel
theorem d_L_holds_33 : decode b_L_holds 33 = .ok (.iconst 0, 1) := by decide +kernel
theorem d_L_holds_34 : decode b_L_holds 34 = .ok (.ireturn, 1) := by decide +kernel
theorem d_L_bundle_0 : decode b_L_bundle 0 = .ok (.aload 6, 2) := by decide +kernel
theorem d_L_bundle_2 : decode b_L_bundle 2 = .ok (.iconst 0, 1) := by decide +kernel
theorem d_L_bundle_3 : decode b_L_bundle 3 = .ok (.aload_n 0, 1) := by decide +kernel
theorem d_L_bundle_4 : decode b_L_bundle 4 = .ok (.iload_n 1, 1) := by decide +kernel
theorem d_L_bundle_5 : decode b_L_bundle 5 = .ok (.lload_n 2, 1) := by decide +kernel
theorem d_L_bundle_6 : decode b_L_bundle 6 = .ok (.iload 4, 2) := by decide +kernel
theorem d_L_bundle_8 : decode b_L_bundle 8 = .ok (.iload 5, 2) := by decide +kernel
theorem d_L_bundle_10 : decode b_L_bundle 10 = .ok (.invokevirtual 61, 3) := by decide +kernel
theorem d_L_bundle_13 : decode b_L_bundle 13 = .ok (.i2l, 1) := by decide +kernel
theorem d_L_bundle_14 : decode b_L_bundle 14 = .ok (.lastore, 1) := by decide +kernel
theorem d_L_bundle_15 : decode b_L_bundle 15 = .ok (.goto 15, 3) := by decide +kernel
theorem d_L_bundle_18 : decode b_L_bundle 18 = .ok (.astore 7, 2) := by decide +kernel
theorem d_L_bundle_20 : decode b_L_bundle 20 = .ok (.iconst 1, 1) := by decide +kernel
theorem d_L_bundle_21 : decode b_L_bundle 21 = .ok (.ireturn, 1) := by decide +kernel
theorem d_L_bundle_22 : decode b_L_bundle 22 = .ok (.astore 7, 2) := by decide +kernel
theorem d_L_bundle_24 : decode b_L_bundle 24 = .ok (.iconst 2, 1) := by decide +kernel
theorem d_L_bundle_25 : decode b_L_bundle 25 = .ok (.ireturn, 1) := by decide +kernel
theorem d_L_bundle_26 : decode b_L_bundle 26 = .ok (.astore 7, 2) := by decide +kernel
theorem d_L_bundle_28 : decode b_L_bundle 28 = .ok (.iconst 3, 1) := by decide +kernel
theorem d_L_bundle_29 : decode b_L_bundle 29 = .ok (.ireturn, 1) := by decide +kernel
theorem d_L_bundle_30 : decode b_L_bundle 30 = .ok (.iconst 0, 1) := by decide +kernel
theorem d_L_bundle_31 : decode b_L_bundle 31 = .ok (.ireturn, 1) := by decide +kernel
theorem d_L_agree_0 : decode b_L_agree 0 = .ok (.aload_n 3, 1) := by decide +kernel
theorem d_L_agree_1 : decode b_L_agree 1 = .ok (.iconst 0, 1) := by decide +kernel
theorem d_L_agree_2 : decode b_L_agree 2 = .ok (.aload_n 0, 1) := by decide +kernel
theorem d_L_agree_3 : decode b_L_agree 3 = .ok (.iload_n 1, 1) := by decide +kernel
theorem d_L_agree_4 : decode b_L_agree 4 = .ok (.iload_n 2, 1) := by decide +kernel
theorem d_L_agree_5 : decode b_L_agree 5 = .ok (.invokevirtual 65, 3) := by decide +kernel
theorem d_L_agree_8 : decode b_L_agree 8 = .ok (.lastore, 1) := by decide +kernel
theorem d_L_agree_9 : decode b_L_agree 9 = .ok (.goto 15, 3) := by decide +kernel
theorem d_L_agree_12 : decode b_L_agree 12 = .ok (.astore 4, 2) := by decide +kernel
theorem d_L_agree_14 : decode b_L_agree 14 = .ok (.iconst 1, 1) := by decide +kernel
theorem d_L_agree_15 : decode b_L_agree 15 = .ok (.ireturn, 1) := by decide +kernel
theorem d_L_agree_16 : decode b_L_agree 16 = .ok (.astore 4, 2) := by decide +kernel
theorem d_L_agree_18 : decode b_L_agree 18 = .ok (.iconst 2, 1) := by decide +kernel
theorem d_L_agree_19 : decode b_L_agree 19 = .ok (.ireturn, 1) := by decide +kernel
theorem d_L_agree_20 : decode b_L_agree 20 = .ok (.astore 4, 2) := by decide +kernel
theorem d_L_agree_22 : decode b_L_agree 22 = .ok (.iconst 3, 1) := by decide +kernel
theorem d_L_agree_23 : decode b_L_agree 23 = .ok (.ireturn, 1) := by decide +kernel
theorem d_L_agree_24 : decode b_L_agree 24 = .ok (.iconst 0, 1) := by decide +kernel
theorem d_L_agree_25 : decode b_L_agree 25 = .ok (.ireturn, 1) := by decide +kernel
theorem d_L_written_0 : decode b_L_written 0 = .ok (.aload 4, 2) := by decide +kernel
theorem d_L_written_2 : decode b_L_written 2 = .ok (.iconst 0, 1) := by decide +kernel
theorem d_L_written_3 : decode b_L_written 3 = .ok (.aload_n 0, 1) := by decide +kernel
theorem d_L_written_4 : decode b_L_written 4 = .ok (.iload_n 1, 1) := by decide +kernel
theorem d_L_written_5 : decode b_L_written 5 = .ok (.iload_n 2, 1) := by decide +kernel
theorem d_L_written_6 : decode b_L_written 6 = .ok (.iload_n 3, 1) := by decide +kernel
theorem d_L_written_7 : decode b_L_written 7 = .ok (.invokevirtual 68, 3) := by decide +kernel
theorem d_L_written_10 : decode b_L_written 10 = .ok (.i2l, 1) := by decide +kernel
theorem d_L_written_11 : decode b_L_written 11 = .ok (.lastore, 1) := by decide +kernel
theorem d_L_written_12 : decode b_L_written 12 = .ok (.goto 7, 3) := by decide +kernel
theorem d_L_written_15 : decode b_L_written 15 = .ok (.astore 5, 2) := by decide +kernel
theorem d_L_written_17 : decode b_L_written 17 = .ok (.iconst 1, 1) := by decide +kernel
theorem d_L_written_18 : decode b_L_written 18 = .ok (.ireturn, 1) := by decide +kernel
theorem d_L_written_19 : decode b_L_written 19 = .ok (.iconst 0, 1) := by decide +kernel
theorem d_L_written_20 : decode b_L_written 20 = .ok (.ireturn, 1) := by decide +kernel
theorem d_L_type_0 : decode b_L_type 0 = .ok (.aload_n 2, 1) := by decide +kernel
theorem d_L_type_1 : decode b_L_type 1 = .ok (.iconst 0, 1) := by decide +kernel
theorem d_L_type_2 : decode b_L_type 2 = .ok (.aload_n 0, 1) := by decide +kernel
theorem d_L_type_3 : decode b_L_type 3 = .ok (.iload_n 1, 1) := by decide +kernel
theorem d_L_type_4 : decode b_L_type 4 = .ok (.invokevirtual 72, 3) := by decide +kernel
theorem d_L_type_7 : decode b_L_type 7 = .ok (.i2l, 1) := by decide +kernel
theorem d_L_type_8 : decode b_L_type 8 = .ok (.lastore, 1) := by decide +kernel
theorem d_L_type_9 : decode b_L_type 9 = .ok (.goto 9, 3) := by decide +kernel
theorem d_L_type_12 : decode b_L_type 12 = .ok (.astore_n 3, 1) := by decide +kernel
theorem d_L_type_13 : decode b_L_type 13 = .ok (.iconst 1, 1) := by decide +kernel
theorem d_L_type_14 : decode b_L_type 14 = .ok (.ireturn, 1) := by decide +kernel
theorem d_L_type_15 : decode b_L_type 15 = .ok (.astore_n 3, 1) := by decide +kernel
theorem d_L_type_16 : decode b_L_type 16 = .ok (.iconst 2, 1) := by decide +kernel
theorem d_L_type_17 : decode b_L_type 17 = .ok (.ireturn, 1) := by decide +kernel
theorem d_L_type_18 : decode b_L_type 18 = .ok (.iconst 0, 1) := by decide +kernel
theorem d_L_type_19 : decode b_L_type 19 = .ok (.ireturn, 1) := by decide +kernel
