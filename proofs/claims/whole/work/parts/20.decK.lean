theorem d_K_even_0 : decode b_K_even 0 = .ok (.iload_n 1, 1) := by decide +kernel
theorem d_K_even_1 : decode b_K_even 1 = .ok (.i2l, 1) := by decide +kernel
theorem d_K_even_2 : decode b_K_even 2 = .ok (.iconst 0, 1) := by decide +kernel
theorem d_K_even_3 : decode b_K_even 3 = .ok (.invokestatic 67, 3) := by decide +kernel
theorem d_K_even_6 : decode b_K_even 6 = .ok (.invokestatic 64, 3) := by decide +kernel
theorem d_K_even_9 : decode b_K_even 9 = .ok (.lreturn, 1) := by decide +kernel
theorem d_K_mark_0 : decode b_K_mark 0 = .ok (.aload_n 0, 1) := by decide +kernel
theorem d_K_mark_1 : decode b_K_mark 1 = .ok (.getfield 30, 3) := by decide +kernel
theorem d_K_mark_4 : decode b_K_mark 4 = .ok (.ireturn, 1) := by decide +kernel
theorem d_K_right_0 : decode b_K_right 0 = .ok (.aload_n 0, 1) := by decide +kernel
theorem d_K_right_1 : decode b_K_right 1 = .ok (.getfield 19, 3) := by decide +kernel
theorem d_K_right_4 : decode b_K_right 4 = .ok (.lload_n 1, 1) := by decide +kernel
theorem d_K_right_5 : decode b_K_right 5 = .ok (.invokevirtual 143, 3) := by decide +kernel
theorem d_K_right_8 : decode b_K_right 8 = .ok (.istore_n 3, 1) := by decide +kernel
theorem d_K_right_9 : decode b_K_right 9 = .ok (.aload_n 0, 1) := by decide +kernel
theorem d_K_right_10 : decode b_K_right 10 = .ok (.getfield 19, 3) := by decide +kernel
theorem d_K_right_13 : decode b_K_right 13 = .ok (.invokevirtual 146, 3) := by decide +kernel
theorem d_K_right_16 : decode b_K_right 16 = .ok (.iload_n 3, 1) := by decide +kernel
theorem d_K_right_17 : decode b_K_right 17 = .ok (.ireturn, 1) := by decide +kernel
theorem d_I_balance_0 : decode b_I_balance 0 = .ok (.lconst 0, 1) := by decide +kernel
theorem d_I_balance_1 : decode b_I_balance 1 = .ok (.lstore_n 3, 1) := by decide +kernel
theorem d_I_balance_2 : decode b_I_balance 2 = .ok (.lconst 0, 1) := by decide +kernel
theorem d_I_balance_3 : decode b_I_balance 3 = .ok (.lstore 5, 2) := by decide +kernel
theorem d_I_balance_5 : decode b_I_balance 5 = .ok (.iconst 0, 1) := by decide +kernel
theorem d_I_balance_6 : decode b_I_balance 6 = .ok (.istore 7, 2) := by decide +kernel
theorem d_I_balance_8 : decode b_I_balance 8 = .ok (.iload 7, 2) := by decide +kernel
theorem d_I_balance_10 : decode b_I_balance 10 = .ok (.aload_n 0, 1) := by decide +kernel
theorem d_I_balance_11 : decode b_I_balance 11 = .ok (.getfield 25, 3) := by decide +kernel
theorem d_I_balance_14 : decode b_I_balance 14 = .ok (.if_icmp .ge 136, 3) := by decide +kernel
theorem d_I_balance_17 : decode b_I_balance 17 = .ok (.aload_n 0, 1) := by decide +kernel
theorem d_I_balance_18 : decode b_I_balance 18 = .ok (.getfield 18, 3) := by decide +kernel
theorem d_I_balance_21 : decode b_I_balance 21 = .ok (.iload 7, 2) := by decide +kernel
theorem d_I_balance_23 : decode b_I_balance 23 = .ok (.iaload, 1) := by decide +kernel
theorem d_I_balance_24 : decode b_I_balance 24 = .ok (.i2l, 1) := by decide +kernel
theorem d_I_balance_25 : decode b_I_balance 25 = .ok (.iconst 0, 1) := by decide +kernel
theorem d_I_balance_26 : decode b_I_balance 26 = .ok (.invokestatic 35, 3) := by decide +kernel
theorem d_I_balance_29 : decode b_I_balance 29 = .ok (.lstore 8, 2) := by decide +kernel
theorem d_I_balance_31 : decode b_I_balance 31 = .ok (.lload 8, 2) := by decide +kernel
theorem d_I_balance_33 : decode b_I_balance 33 = .ok (.lconst 0, 1) := by decide +kernel
theorem d_I_balance_34 : decode b_I_balance 34 = .ok (.lcmp, 1) := by decide +kernel
theorem d_I_balance_35 : decode b_I_balance 35 = .ok (.ifCond .eq 17, 3) := by decide +kernel
theorem d_I_balance_38 : decode b_I_balance 38 = .ok (.aload_n 0, 1) := by decide +kernel
theorem d_I_balance_39 : decode b_I_balance 39 = .ok (.getfield 22, 3) := by decide +kernel
theorem d_I_balance_42 : decode b_I_balance 42 = .ok (.iload 7, 2) := by decide +kernel
theorem d_I_balance_44 : decode b_I_balance 44 = .ok (.iaload, 1) := by decide +kernel
theorem d_I_balance_45 : decode b_I_balance 45 = .ok (.i2l, 1) := by decide +kernel
theorem d_I_balance_46 : decode b_I_balance 46 = .ok (.invokestatic 39, 3) := by decide +kernel
theorem d_I_balance_49 : decode b_I_balance 49 = .ok (.ifCond .ne 5, 3) := by decide +kernel
theorem d_I_balance_52 : decode b_I_balance 52 = .ok (.iconst 0, 1) := by decide +kernel
theorem d_I_balance_53 : decode b_I_balance 53 = .ok (.ireturn, 1) := by decide +kernel
theorem d_I_balance_54 : decode b_I_balance 54 = .ok (.lload_n 1, 1) := by decide +kernel
theorem d_I_balance_55 : decode b_I_balance 55 = .ok (.iload 7, 2) := by decide +kernel
theorem d_I_balance_57 : decode b_I_balance 57 = .ok (.invokestatic 45, 3) := by decide +kernel
theorem d_I_balance_60 : decode b_I_balance 60 = .ok (.lstore 10, 2) := by decide +kernel
theorem d_I_balance_62 : decode b_I_balance 62 = .ok (.aload_n 0, 1) := by decide +kernel
theorem d_I_balance_63 : decode b_I_balance 63 = .ok (.getfield 18, 3) := by decide +kernel
theorem d_I_balance_66 : decode b_I_balance 66 = .ok (.iload 7, 2) := by decide +kernel
theorem d_I_balance_68 : decode b_I_balance 68 = .ok (.iaload, 1) := by decide +kernel
theorem d_I_balance_69 : decode b_I_balance 69 = .ok (.i2l, 1) := by decide +kernel
theorem d_I_balance_70 : decode b_I_balance 70 = .ok (.aload_n 0, 1) := by decide +kernel
theorem d_I_balance_71 : decode b_I_balance 71 = .ok (.getfield 9, 3) := by decide +kernel
theorem d_I_balance_74 : decode b_I_balance 74 = .ok (.iload 7, 2) := by decide +kernel
theorem d_I_balance_76 : decode b_I_balance 76 = .ok (.laload, 1) := by decide +kernel
theorem d_I_balance_77 : decode b_I_balance 77 = .ok (.invokestatic 49, 3) := by decide +kernel
theorem d_I_balance_80 : decode b_I_balance 80 = .ok (.aload_n 0, 1) := by decide +kernel
theorem d_I_balance_81 : decode b_I_balance 81 = .ok (.getfield 15, 3) := by decide +kernel
theorem d_I_balance_84 : decode b_I_balance 84 = .ok (.iload 7, 2) := by decide +kernel
theorem d_I_balance_86 : decode b_I_balance 86 = .ok (.laload, 1) := by decide +kernel
theorem d_I_balance_87 : decode b_I_balance 87 = .ok (.invokestatic 52, 3) := by decide +kernel
theorem d_I_balance_90 : decode b_I_balance 90 = .ok (.lstore 12, 2) := by decide +kernel
theorem d_I_balance_92 : decode b_I_balance 92 = .ok (.lload_n 3, 1) := by decide +kernel
theorem d_I_balance_93 : decode b_I_balance 93 = .ok (.lload 10, 2) := by decide +kernel
theorem d_I_balance_95 : decode b_I_balance 95 = .ok (.aload_n 0, 1) := by decide +kernel
theorem d_I_balance_96 : decode b_I_balance 96 = .ok (.getfield 22, 3) := by decide +kernel
theorem d_I_balance_99 : decode b_I_balance 99 = .ok (.iload 7, 2) := by decide +kernel
theorem d_I_balance_101 : decode b_I_balance 101 = .ok (.iaload, 1) := by decide +kernel
theorem d_I_balance_102 : decode b_I_balance 102 = .ok (.i2l, 1) := by decide +kernel
theorem d_I_balance_103 : decode b_I_balance 103 = .ok (.lmul, 1) := by decide +kernel
theorem d_I_balance_104 : decode b_I_balance 104 = .ok (.ladd, 1) := by decide +kernel
theorem d_I_balance_105 : decode b_I_balance 105 = .ok (.ldc2_w 56, 3) := by decide +kernel
theorem d_I_balance_108 : decode b_I_balance 108 = .ok (.lrem, 1) := by decide +kernel
theorem d_I_balance_109 : decode b_I_balance 109 = .ok (.lstore_n 3, 1) := by decide +kernel
theorem d_I_balance_110 : decode b_I_balance 110 = .ok (.lload 10, 2) := by decide +kernel
theorem d_I_balance_112 : decode b_I_balance 112 = .ok (.lload 8, 2) := by decide +kernel
theorem d_I_balance_114 : decode b_I_balance 114 = .ok (.lload 10, 2) := by decide +kernel
theorem d_I_balance_116 : decode b_I_balance 116 = .ok (.lload 12, 2) := by decide +kernel
theorem d_I_balance_118 : decode b_I_balance 118 = .ok (.lmul, 1) := by decide +kernel
theorem d_I_balance_119 : decode b_I_balance 119 = .ok (.ldc2_w 56, 3) := by decide +kernel
theorem d_I_balance_122 : decode b_I_balance 122 = .ok (.lrem, 1) := by decide +kernel
theorem d_I_balance_123 : decode b_I_balance 123 = .ok (.aload_n 0, 1) := by decide +kernel
theorem d_I_balance_124 : decode b_I_balance 124 = .ok (.getfield 9, 3) := by decide +kernel
theorem d_I_balance_127 : decode b_I_balance 127 = .ok (.iload 7, 2) := by decide +kernel
theorem d_I_balance_129 : decode b_I_balance 129 = .ok (.laload, 1) := by decide +kernel
theorem d_I_balance_130 : decode b_I_balance 130 = .ok (.invokestatic 58, 3) := by decide +kernel
theorem d_I_balance_133 : decode b_I_balance 133 = .ok (.lstore 14, 2) := by decide +kernel
theorem d_I_balance_135 : decode b_I_balance 135 = .ok (.lload 5, 2) := by decide +kernel
theorem d_I_balance_137 : decode b_I_balance 137 = .ok (.lload 14, 2) := by decide +kernel
theorem d_I_balance_139 : decode b_I_balance 139 = .ok (.invokestatic 62, 3) := by decide +kernel
theorem d_I_balance_142 : decode b_I_balance 142 = .ok (.lstore 5, 2) := by decide +kernel
theorem d_I_balance_144 : decode b_I_balance 144 = .ok (.iinc 7 1, 3) := by decide +kernel
theorem d_I_balance_147 : decode b_I_balance 147 = .ok (.goto (-139), 3) := by decide +kernel
theorem d_I_balance_150 : decode b_I_balance 150 = .ok (.lload_n 3, 1) := by decide +kernel
theorem d_I_balance_151 : decode b_I_balance 151 = .ok (.ldc2_w 66, 3) := by decide +kernel
theorem d_I_balance_154 : decode b_I_balance 154 = .ok (.invokestatic 68, 3) := by decide +kernel
theorem d_I_balance_157 : decode b_I_balance 157 = .ok (.lload 5, 2) := by decide +kernel
theorem d_I_balance_159 : decode b_I_balance 159 = .ok (.lcmp, 1) := by decide +kernel
theorem d_I_balance_160 : decode b_I_balance 160 = .ok (.ifCond .ne 7, 3) := by decide +kernel
theorem d_I_balance_163 : decode b_I_balance 163 = .ok (.iconst 1, 1) := by decide +kernel
theorem d_I_balance_164 : decode b_I_balance 164 = .ok (.goto 4, 3) := by decide +kernel
theorem d_I_balance_167 : decode b_I_balance 167 = .ok (.iconst 0, 1) := by decide +kernel
theorem d_I_balance_168 : decode b_I_balance 168 = .ok (.ireturn, 1) := by decide +kernel
theorem d_I_clear_0 : decode b_I_clear 0 = .ok (.aload_n 0, 1) := by decide +kernel
theorem d_I_clear_1 : decode b_I_clear 1 = .ok (.iconst 0, 1) := by decide +kernel
theorem d_I_clear_2 : decode b_I_clear 2 = .ok (.putfield 25, 3) := by decide +kernel
theorem d_I_clear_5 : decode b_I_clear 5 = .ok (.return_, 1) := by decide +kernel
theorem d_K_read_0 : decode b_K_read 0 = .ok (.aload_n 0, 1) := by decide +kernel
theorem d_K_read_1 : decode b_K_read 1 = .ok (.getfield 26, 3) := by decide +kernel
theorem d_K_read_4 : decode b_K_read 4 = .ok (.invokevirtual 168, 3) := by decide +kernel
theorem d_K_read_7 : decode b_K_read 7 = .ok (.lstore_n 1, 1) := by decide +kernel
theorem d_K_read_8 : decode b_K_read 8 = .ok (.aload_n 0, 1) := by decide +kernel
theorem d_K_read_9 : decode b_K_read 9 = .ok (.getfield 26, 3) := by decide +kernel
theorem d_K_read_12 : decode b_K_read 12 = .ok (.invokevirtual 172, 3) := by decide +kernel
theorem d_K_read_15 : decode b_K_read 15 = .ok (.lload_n 1, 1) := by decide +kernel
theorem d_K_read_16 : decode b_K_read 16 = .ok (.lreturn, 1) := by decide +kernel
theorem d_T_numbers_0 : decode b_T_numbers 0 = .ok (.iconst 2, 1) := by decide +kernel
theorem d_T_numbers_1 : decode b_T_numbers 1 = .ok (.aload_n 0, 1) := by decide +kernel
theorem d_T_numbers_2 : decode b_T_numbers 2 = .ok (.iconst 2, 1) := by decide +kernel
theorem d_T_numbers_3 : decode b_T_numbers 3 = .ok (.invokevirtual 21, 3) := by decide +kernel
theorem d_T_numbers_6 : decode b_T_numbers 6 = .ok (.iadd, 1) := by decide +kernel
theorem d_T_numbers_7 : decode b_T_numbers 7 = .ok (.istore_n 1, 1) := by decide +kernel
theorem d_T_numbers_8 : decode b_T_numbers 8 = .ok (.aload_n 0, 1) := by decide +kernel
theorem d_T_numbers_9 : decode b_T_numbers 9 = .ok (.iconst 2, 1) := by decide +kernel
theorem d_T_numbers_10 : decode b_T_numbers 10 = .ok (.invokevirtual 25, 3) := by decide +kernel
theorem d_T_numbers_13 : decode b_T_numbers 13 = .ok (.istore_n 2, 1) := by decide +kernel
theorem d_T_numbers_14 : decode b_T_numbers 14 = .ok (.aload_n 0, 1) := by decide +kernel
theorem d_T_numbers_15 : decode b_T_numbers 15 = .ok (.iload_n 1, 1) := by decide +kernel
theorem d_T_numbers_16 : decode b_T_numbers 16 = .ok (.invokevirtual 25, 3) := by decide +kernel
theorem d_T_numbers_19 : decode b_T_numbers 19 = .ok (.istore_n 3, 1) := by decide +kernel
theorem d_T_numbers_20 : decode b_T_numbers 20 = .ok (.iload_n 2, 1) := by decide +kernel
theorem d_T_numbers_21 : decode b_T_numbers 21 = .ok (.ifCond .lt 28, 3) := by decide +kernel
theorem d_T_numbers_24 : decode b_T_numbers 24 = .ok (.iload_n 3, 1) := by decide +kernel
theorem d_T_numbers_25 : decode b_T_numbers 25 = .ok (.ifCond .lt 24, 3) := by decide +kernel
theorem d_T_numbers_28 : decode b_T_numbers 28 = .ok (.aload_n 0, 1) := by decide +kernel
theorem d_T_numbers_29 : decode b_T_numbers 29 = .ok (.iload_n 2, 1) := by decide +kernel
theorem d_T_numbers_30 : decode b_T_numbers 30 = .ok (.iload_n 3, 1) := by decide +kernel
theorem d_T_numbers_31 : decode b_T_numbers 31 = .ok (.invokevirtual 28, 3) := by decide +kernel
theorem d_T_numbers_34 : decode b_T_numbers 34 = .ok (.ifCond .eq 15, 3) := by decide +kernel
theorem d_T_numbers_37 : decode b_T_numbers 37 = .ok (.iload_n 2, 1) := by decide +kernel
theorem d_T_numbers_38 : decode b_T_numbers 38 = .ok (.i2l, 1) := by decide +kernel
theorem d_T_numbers_39 : decode b_T_numbers 39 = .ok (.ldc2_w 32, 3) := by decide +kernel
theorem d_T_numbers_42 : decode b_T_numbers 42 = .ok (.lmul, 1) := by decide +kernel
theorem d_T_numbers_43 : decode b_T_numbers 43 = .ok (.iload_n 3, 1) := by decide +kernel
theorem d_T_numbers_44 : decode b_T_numbers 44 = .ok (.i2l, 1) := by decide +kernel
theorem d_T_numbers_45 : decode b_T_numbers 45 = .ok (.ladd, 1) := by decide +kernel
theorem d_T_numbers_46 : decode b_T_numbers 46 = .ok (.goto 6, 3) := by decide +kernel
theorem d_T_numbers_49 : decode b_T_numbers 49 = .ok (.ldc2_w 34, 3) := by decide +kernel
theorem d_T_numbers_52 : decode b_T_numbers 52 = .ok (.lreturn, 1) := by decide +kernel
theorem d_T_sizeAt_0 : decode b_T_sizeAt 0 = .ok (.iload_n 1, 1) := by decide +kernel
theorem d_T_sizeAt_1 : decode b_T_sizeAt 1 = .ok (.iconst 1, 1) := by decide +kernel
theorem d_T_sizeAt_2 : decode b_T_sizeAt 2 = .ok (.iadd, 1) := by decide +kernel
theorem d_T_sizeAt_3 : decode b_T_sizeAt 3 = .ok (.aload_n 0, 1) := by decide +kernel
theorem d_T_sizeAt_4 : decode b_T_sizeAt 4 = .ok (.getfield 15, 3) := by decide +kernel
theorem d_T_sizeAt_7 : decode b_T_sizeAt 7 = .ok (.if_icmp .ge 16, 3) := by decide +kernel
theorem d_T_sizeAt_10 : decode b_T_sizeAt 10 = .ok (.iconst 2, 1) := by decide +kernel
theorem d_T_sizeAt_11 : decode b_T_sizeAt 11 = .ok (.aload_n 0, 1) := by decide +kernel
theorem d_T_sizeAt_12 : decode b_T_sizeAt 12 = .ok (.getfield 9, 3) := by decide +kernel
theorem d_T_sizeAt_15 : decode b_T_sizeAt 15 = .ok (.iload_n 1, 1) := by decide +kernel
theorem d_T_sizeAt_16 : decode b_T_sizeAt 16 = .ok (.iconst 1, 1) := by decide +kernel
theorem d_T_sizeAt_17 : decode b_T_sizeAt 17 = .ok (.iadd, 1) := by decide +kernel
theorem d_T_sizeAt_18 : decode b_T_sizeAt 18 = .ok (.iaload, 1) := by decide +kernel
theorem d_T_sizeAt_19 : decode b_T_sizeAt 19 = .ok (.iadd, 1) := by decide +kernel
theorem d_T_sizeAt_20 : decode b_T_sizeAt 20 = .ok (.goto 4, 3) := by decide +kernel
theorem d_T_sizeAt_23 : decode b_T_sizeAt 23 = .ok (.iconst 2, 1) := by decide +kernel
theorem d_T_sizeAt_24 : decode b_T_sizeAt 24 = .ok (.ireturn, 1) := by decide +kernel
theorem d_T_numberAt_0 : decode b_T_numberAt 0 = .ok (.iconst 0, 1) := by decide +kernel
theorem d_T_numberAt_1 : decode b_T_numberAt 1 = .ok (.istore_n 2, 1) := by decide +kernel
theorem d_T_numberAt_2 : decode b_T_numberAt 2 = .ok (.iload_n 1, 1) := by decide +kernel
theorem d_T_numberAt_3 : decode b_T_numberAt 3 = .ok (.aload_n 0, 1) := by decide +kernel
theorem d_T_numberAt_4 : decode b_T_numberAt 4 = .ok (.iload_n 1, 1) := by decide +kernel
theorem d_T_numberAt_5 : decode b_T_numberAt 5 = .ok (.invokevirtual 21, 3) := by decide +kernel
theorem d_T_numberAt_8 : decode b_T_numberAt 8 = .ok (.iadd, 1) := by decide +kernel
theorem d_T_numberAt_9 : decode b_T_numberAt 9 = .ok (.istore_n 3, 1) := by decide +kernel
theorem d_T_numberAt_10 : decode b_T_numberAt 10 = .ok (.iload_n 1, 1) := by decide +kernel
theorem d_T_numberAt_11 : decode b_T_numberAt 11 = .ok (.iconst 2, 1) := by decide +kernel
theorem d_T_numberAt_12 : decode b_T_numberAt 12 = .ok (.iadd, 1) := by decide +kernel
theorem d_T_numberAt_13 : decode b_T_numberAt 13 = .ok (.istore 4, 2) := by decide +kernel
theorem d_T_numberAt_15 : decode b_T_numberAt 15 = .ok (.iload 4, 2) := by decide +kernel
theorem d_T_numberAt_17 : decode b_T_numberAt 17 = .ok (.iload_n 3, 1) := by decide +kernel
theorem d_T_numberAt_18 : decode b_T_numberAt 18 = .ok (.if_icmp .ge 31, 3) := by decide +kernel
theorem d_T_numberAt_21 : decode b_T_numberAt 21 = .ok (.iload 4, 2) := by decide +kernel
theorem d_T_numberAt_23 : decode b_T_numberAt 23 = .ok (.aload_n 0, 1) := by decide +kernel
theorem d_T_numberAt_24 : decode b_T_numberAt 24 = .ok (.getfield 15, 3) := by decide +kernel
theorem d_T_numberAt_27 : decode b_T_numberAt 27 = .ok (.if_icmp .ge 22, 3) := by decide +kernel
theorem d_T_numberAt_30 : decode b_T_numberAt 30 = .ok (.iload_n 2, 1) := by decide +kernel
theorem d_T_numberAt_31 : decode b_T_numberAt 31 = .ok (.bipush 8, 2) := by decide +kernel
theorem d_T_numberAt_33 : decode b_T_numberAt 33 = .ok (.ishl, 1) := by decide +kernel
theorem d_T_numberAt_34 : decode b_T_numberAt 34 = .ok (.aload_n 0, 1) := by decide +kernel
theorem d_T_numberAt_35 : decode b_T_numberAt 35 = .ok (.getfield 9, 3) := by decide +kernel
theorem d_T_numberAt_38 : decode b_T_numberAt 38 = .ok (.iload 4, 2) := by decide +kernel
theorem d_T_numberAt_40 : decode b_T_numberAt 40 = .ok (.iaload, 1) := by decide +kernel
theorem d_T_numberAt_41 : decode b_T_numberAt 41 = .ok (.ior, 1) := by decide +kernel
theorem d_T_numberAt_42 : decode b_T_numberAt 42 = .ok (.istore_n 2, 1) := by decide +kernel
theorem d_T_numberAt_43 : decode b_T_numberAt 43 = .ok (.iinc 4 1, 3) := by decide +kernel
theorem d_T_numberAt_46 : decode b_T_numberAt 46 = .ok (.goto (-31), 3) := by decide +kernel
theorem d_T_numberAt_49 : decode b_T_numberAt 49 = .ok (.iload_n 2, 1) := by decide +kernel
theorem d_T_numberAt_50 : decode b_T_numberAt 50 = .ok (.ireturn, 1) := by decide +kernel
theorem d_T_areFormOf_0 : decode b_T_areFormOf 0 = .ok (.aload_n 0, 1) := by decide +kernel
theorem d_T_areFormOf_1 : decode b_T_areFormOf 1 = .ok (.getfield 15, 3) := by decide +kernel
theorem d_T_areFormOf_4 : decode b_T_areFormOf 4 = .ok (.iload_n 1, 1) := by decide +kernel
theorem d_T_areFormOf_5 : decode b_T_areFormOf 5 = .ok (.iload_n 2, 1) := by decide +kernel
theorem d_T_areFormOf_6 : decode b_T_areFormOf 6 = .ok (.invokestatic 36, 3) := by decide +kernel
theorem d_T_areFormOf_9 : decode b_T_areFormOf 9 = .ok (.if_icmp .eq 5, 3) := by decide +kernel
theorem d_T_areFormOf_12 : decode b_T_areFormOf 12 = .ok (.iconst 0, 1) := by decide +kernel
theorem d_T_areFormOf_13 : decode b_T_areFormOf 13 = .ok (.ireturn, 1) := by decide +kernel
theorem d_T_areFormOf_14 : decode b_T_areFormOf 14 = .ok (.iconst 0, 1) := by decide +kernel
theorem d_T_areFormOf_15 : decode b_T_areFormOf 15 = .ok (.istore_n 3, 1) := by decide +kernel
theorem d_T_areFormOf_16 : decode b_T_areFormOf 16 = .ok (.iload_n 3, 1) := by decide +kernel
theorem d_T_areFormOf_17 : decode b_T_areFormOf 17 = .ok (.aload_n 0, 1) := by decide +kernel
theorem d_T_areFormOf_18 : decode b_T_areFormOf 18 = .ok (.getfield 15, 3) := by decide +kernel
theorem d_T_areFormOf_21 : decode b_T_areFormOf 21 = .ok (.if_icmp .ge 26, 3) := by decide +kernel
theorem d_T_areFormOf_24 : decode b_T_areFormOf 24 = .ok (.aload_n 0, 1) := by decide +kernel
theorem d_T_areFormOf_25 : decode b_T_areFormOf 25 = .ok (.getfield 9, 3) := by decide +kernel
theorem d_T_areFormOf_28 : decode b_T_areFormOf 28 = .ok (.iload_n 3, 1) := by decide +kernel
theorem d_T_areFormOf_29 : decode b_T_areFormOf 29 = .ok (.iaload, 1) := by decide +kernel
theorem d_T_areFormOf_30 : decode b_T_areFormOf 30 = .ok (.iload_n 1, 1) := by decide +kernel
theorem d_T_areFormOf_31 : decode b_T_areFormOf 31 = .ok (.iload_n 2, 1) := by decide +kernel
theorem d_T_areFormOf_32 : decode b_T_areFormOf 32 = .ok (.iload_n 3, 1) := by decide +kernel
theorem d_T_areFormOf_33 : decode b_T_areFormOf 33 = .ok (.invokestatic 40, 3) := by decide +kernel
theorem d_T_areFormOf_36 : decode b_T_areFormOf 36 = .ok (.if_icmp .eq 5, 3) := by decide +kernel
theorem d_T_areFormOf_39 : decode b_T_areFormOf 39 = .ok (.iconst 0, 1) := by decide +kernel
theorem d_T_areFormOf_40 : decode b_T_areFormOf 40 = .ok (.ireturn, 1) := by decide +kernel
theorem d_T_areFormOf_41 : decode b_T_areFormOf 41 = .ok (.iinc 3 1, 3) := by decide +kernel
theorem d_T_areFormOf_44 : decode b_T_areFormOf 44 = .ok (.goto (-28), 3) := by decide +kernel
theorem d_T_areFormOf_47 : decode b_T_areFormOf 47 = .ok (.iconst 1, 1) := by decide +kernel
theorem d_T_areFormOf_48 : decode b_T_areFormOf 48 = .ok (.ireturn, 1) := by decide +kernel
theorem d_T_clear_0 : decode b_T_clear 0 = .ok (.aload_n 0, 1) := by decide +kernel
theorem d_T_clear_1 : decode b_T_clear 1 = .ok (.iconst 0, 1) := by decide +kernel
theorem d_T_clear_2 : decode b_T_clear 2 = .ok (.putfield 15, 3) := by decide +kernel
theorem d_T_clear_5 : decode b_T_clear 5 = .ok (.return_, 1) := by decide +kernel
theorem d_K_fill_0 : decode b_K_fill 0 = .ok (.aload_n 0, 1) := by decide +kernel
theorem d_K_fill_1 : decode b_K_fill 1 = .ok (.getfield 9, 3) := by decide +kernel
theorem d_K_fill_4 : decode b_K_fill 4 = .ok (.iload_n 1, 1) := by decide +kernel
theorem d_K_fill_5 : decode b_K_fill 5 = .ok (.lload_n 2, 1) := by decide +kernel
theorem d_K_fill_6 : decode b_K_fill 6 = .ok (.lastore, 1) := by decide +kernel
theorem d_K_fill_7 : decode b_K_fill 7 = .ok (.aload_n 0, 1) := by decide +kernel
theorem d_K_fill_8 : decode b_K_fill 8 = .ok (.getfield 13, 3) := by decide +kernel
theorem d_K_fill_11 : decode b_K_fill 11 = .ok (.iload_n 1, 1) := by decide +kernel
theorem d_K_fill_12 : decode b_K_fill 12 = .ok (.lload 4, 2) := by decide +kernel
theorem d_K_fill_14 : decode b_K_fill 14 = .ok (.lastore, 1) := by decide +kernel
theorem d_K_fill_15 : decode b_K_fill 15 = .ok (.lload_n 2, 1) := by decide +kernel
theorem d_K_fill_16 : decode b_K_fill 16 = .ok (.invokestatic 64, 3) := by decide +kernel
theorem d_K_fill_19 : decode b_K_fill 19 = .ok (.lreturn, 1) := by decide +kernel
theorem d_I_areFull_0 : decode b_I_areFull 0 = .ok (.aload_n 0, 1) := by decide +kernel
theorem d_I_areFull_1 : decode b_I_areFull 1 = .ok (.getfield 25, 3) := by decide +kernel
theorem d_I_areFull_4 : decode b_I_areFull 4 = .ok (.bipush 8, 2) := by decide +kernel
theorem d_I_areFull_6 : decode b_I_areFull 6 = .ok (.if_icmp .lt 7, 3) := by decide +kernel
theorem d_I_areFull_9 : decode b_I_areFull 9 = .ok (.iconst 1, 1) := by decide +kernel
theorem d_I_areFull_10 : decode b_I_areFull 10 = .ok (.goto 4, 3) := by decide +kernel
theorem d_I_areFull_13 : decode b_I_areFull 13 = .ok (.iconst 0, 1) := by decide +kernel
theorem d_I_areFull_14 : decode b_I_areFull 14 = .ok (.ireturn, 1) := by decide +kernel
theorem d_I_put_0 : decode b_I_put 0 = .ok (.aload_n 0, 1) := by decide +kernel
theorem d_I_put_1 : decode b_I_put 1 = .ok (.getfield 9, 3) := by decide +kernel
theorem d_I_put_4 : decode b_I_put 4 = .ok (.aload_n 0, 1) := by decide +kernel
theorem d_I_put_5 : decode b_I_put 5 = .ok (.getfield 25, 3) := by decide +kernel
theorem d_I_put_8 : decode b_I_put 8 = .ok (.lload_n 1, 1) := by decide +kernel
theorem d_I_put_9 : decode b_I_put 9 = .ok (.invokestatic 29, 3) := by decide +kernel
theorem d_I_put_12 : decode b_I_put 12 = .ok (.lastore, 1) := by decide +kernel
theorem d_I_put_13 : decode b_I_put 13 = .ok (.aload_n 0, 1) := by decide +kernel
theorem d_I_put_14 : decode b_I_put 14 = .ok (.getfield 15, 3) := by decide +kernel
theorem d_I_put_17 : decode b_I_put 17 = .ok (.aload_n 0, 1) := by decide +kernel
theorem d_I_put_18 : decode b_I_put 18 = .ok (.getfield 25, 3) := by decide +kernel
theorem d_I_put_21 : decode b_I_put 21 = .ok (.lload_n 3, 1) := by decide +kernel
theorem d_I_put_22 : decode b_I_put 22 = .ok (.lastore, 1) := by decide +kernel
theorem d_I_put_23 : decode b_I_put 23 = .ok (.aload_n 0, 1) := by decide +kernel
theorem d_I_put_24 : decode b_I_put 24 = .ok (.getfield 18, 3) := by decide +kernel
theorem d_I_put_27 : decode b_I_put 27 = .ok (.aload_n 0, 1) := by decide +kernel
theorem d_I_put_28 : decode b_I_put 28 = .ok (.getfield 25, 3) := by decide +kernel
theorem d_I_put_31 : decode b_I_put 31 = .ok (.iload 5, 2) := by decide +kernel
theorem d_I_put_33 : decode b_I_put 33 = .ok (.iastore, 1) := by decide +kernel
theorem d_I_put_34 : decode b_I_put 34 = .ok (.aload_n 0, 1) := by decide +kernel
theorem d_I_put_35 : decode b_I_put 35 = .ok (.getfield 22, 3) := by decide +kernel
theorem d_I_put_38 : decode b_I_put 38 = .ok (.aload_n 0, 1) := by decide +kernel
theorem d_I_put_39 : decode b_I_put 39 = .ok (.getfield 25, 3) := by decide +kernel
theorem d_I_put_42 : decode b_I_put 42 = .ok (.iload 6, 2) := by decide +kernel
theorem d_I_put_44 : decode b_I_put 44 = .ok (.iastore, 1) := by decide +kernel
theorem d_I_put_45 : decode b_I_put 45 = .ok (.aload_n 0, 1) := by decide +kernel
theorem d_I_put_46 : decode b_I_put 46 = .ok (.dup, 1) := by decide +kernel
theorem d_I_put_47 : decode b_I_put 47 = .ok (.getfield 25, 3) := by decide +kernel
theorem d_I_put_50 : decode b_I_put 50 = .ok (.iconst 1, 1) := by decide +kernel
theorem d_I_put_51 : decode b_I_put 51 = .ok (.iadd, 1) := by decide +kernel
theorem d_I_put_52 : decode b_I_put 52 = .ok (.putfield 25, 3) := by decide +kernel
theorem d_I_put_55 : decode b_I_put 55 = .ok (.aload_n 0, 1) := by decide +kernel
theorem d_I_put_56 : decode b_I_put 56 = .ok (.getfield 25, 3) := by decide +kernel
theorem d_I_put_59 : decode b_I_put 59 = .ok (.ireturn, 1) := by decide +kernel
theorem d_T_isFull_0 : decode b_T_isFull 0 = .ok (.aload_n 0, 1) := by decide +kernel
theorem d_T_isFull_1 : decode b_T_isFull 1 = .ok (.getfield 15, 3) := by decide +kernel
theorem d_T_isFull_4 : decode b_T_isFull 4 = .ok (.bipush 20, 2) := by decide +kernel
theorem d_T_isFull_6 : decode b_T_isFull 6 = .ok (.if_icmp .lt 7, 3) := by decide +kernel
theorem d_T_isFull_9 : decode b_T_isFull 9 = .ok (.iconst 1, 1) := by decide +kernel
theorem d_T_isFull_10 : decode b_T_isFull 10 = .ok (.goto 4, 3) := by decide +kernel
theorem d_T_isFull_13 : decode b_T_isFull 13 = .ok (.iconst 0, 1) := by decide +kernel
theorem d_T_isFull_14 : decode b_T_isFull 14 = .ok (.ireturn, 1) := by decide +kernel
theorem d_T_put_0 : decode b_T_put 0 = .ok (.aload_n 0, 1) := by decide +kernel
theorem d_T_put_1 : decode b_T_put 1 = .ok (.getfield 9, 3) := by decide +kernel
theorem d_T_put_4 : decode b_T_put 4 = .ok (.aload_n 0, 1) := by decide +kernel
theorem d_T_put_5 : decode b_T_put 5 = .ok (.getfield 15, 3) := by decide +kernel
theorem d_T_put_8 : decode b_T_put 8 = .ok (.iload_n 1, 1) := by decide +kernel
theorem d_T_put_9 : decode b_T_put 9 = .ok (.iastore, 1) := by decide +kernel
theorem d_T_put_10 : decode b_T_put 10 = .ok (.aload_n 0, 1) := by decide +kernel
theorem d_T_put_11 : decode b_T_put 11 = .ok (.dup, 1) := by decide +kernel
theorem d_T_put_12 : decode b_T_put 12 = .ok (.getfield 15, 3) := by decide +kernel
theorem d_T_put_15 : decode b_T_put 15 = .ok (.iconst 1, 1) := by decide +kernel
theorem d_T_put_16 : decode b_T_put 16 = .ok (.iadd, 1) := by decide +kernel
theorem d_T_put_17 : decode b_T_put 17 = .ok (.putfield 15, 3) := by decide +kernel
theorem d_T_put_20 : decode b_T_put 20 = .ok (.aload_n 0, 1) := by decide +kernel
theorem d_T_put_21 : decode b_T_put 21 = .ok (.getfield 15, 3) := by decide +kernel
theorem d_T_put_24 : decode b_T_put 24 = .ok (.ireturn, 1) := by decide +kernel
