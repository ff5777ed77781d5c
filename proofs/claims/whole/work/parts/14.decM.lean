theorem d_M_isSlot_0 : decode b_M_isSlot 0 = .ok (.iload_n 0, 1) := by decide +kernel
theorem d_M_isSlot_1 : decode b_M_isSlot 1 = .ok (.ifCond .lt 12, 3) := by decide +kernel
theorem d_M_isSlot_4 : decode b_M_isSlot 4 = .ok (.iload_n 0, 1) := by decide +kernel
theorem d_M_isSlot_5 : decode b_M_isSlot 5 = .ok (.iconst 5, 1) := by decide +kernel
theorem d_M_isSlot_6 : decode b_M_isSlot 6 = .ok (.if_icmp .gt 7, 3) := by decide +kernel
theorem d_M_isSlot_9 : decode b_M_isSlot 9 = .ok (.iconst 1, 1) := by decide +kernel
theorem d_M_isSlot_10 : decode b_M_isSlot 10 = .ok (.goto 4, 3) := by decide +kernel
theorem d_M_isSlot_13 : decode b_M_isSlot 13 = .ok (.iconst 0, 1) := by decide +kernel
theorem d_M_isSlot_14 : decode b_M_isSlot 14 = .ok (.ireturn, 1) := by decide +kernel
theorem d_M_g_0 : decode b_M_g 0 = .ok (.ldc2_w 81, 3) := by decide +kernel
theorem d_M_g_3 : decode b_M_g 3 = .ok (.lreturn, 1) := by decide +kernel
theorem d_M_times_0 : decode b_M_times 0 = .ok (.ldc2_w 35, 3) := by decide +kernel
theorem d_M_times_3 : decode b_M_times 3 = .ok (.lstore 4, 2) := by decide +kernel
theorem d_M_times_5 : decode b_M_times 5 = .ok (.lload_n 2, 1) := by decide +kernel
theorem d_M_times_6 : decode b_M_times 6 = .ok (.lstore 6, 2) := by decide +kernel
theorem d_M_times_8 : decode b_M_times 8 = .ok (.lload_n 0, 1) := by decide +kernel
theorem d_M_times_9 : decode b_M_times 9 = .ok (.lstore 8, 2) := by decide +kernel
theorem d_M_times_11 : decode b_M_times 11 = .ok (.lload 8, 2) := by decide +kernel
theorem d_M_times_13 : decode b_M_times 13 = .ok (.lconst 0, 1) := by decide +kernel
theorem d_M_times_14 : decode b_M_times 14 = .ok (.lcmp, 1) := by decide +kernel
theorem d_M_times_15 : decode b_M_times 15 = .ok (.ifCond .le 48, 3) := by decide +kernel
theorem d_M_times_18 : decode b_M_times 18 = .ok (.lload 8, 2) := by decide +kernel
theorem d_M_times_20 : decode b_M_times 20 = .ok (.ldc2_w 45, 3) := by decide +kernel
theorem d_M_times_23 : decode b_M_times 23 = .ok (.lrem, 1) := by decide +kernel
theorem d_M_times_24 : decode b_M_times 24 = .ok (.lconst 1, 1) := by decide +kernel
theorem d_M_times_25 : decode b_M_times 25 = .ok (.lcmp, 1) := by decide +kernel
theorem d_M_times_26 : decode b_M_times 26 = .ok (.ifCond .ne 13, 3) := by decide +kernel
theorem d_M_times_29 : decode b_M_times 29 = .ok (.lload 4, 2) := by decide +kernel
theorem d_M_times_31 : decode b_M_times 31 = .ok (.lload 6, 2) := by decide +kernel
theorem d_M_times_33 : decode b_M_times 33 = .ok (.invokestatic 78, 3) := by decide +kernel
theorem d_M_times_36 : decode b_M_times 36 = .ok (.goto 5, 3) := by decide +kernel
theorem d_M_times_39 : decode b_M_times 39 = .ok (.lload 4, 2) := by decide +kernel
theorem d_M_times_41 : decode b_M_times 41 = .ok (.lstore 4, 2) := by decide +kernel
theorem d_M_times_43 : decode b_M_times 43 = .ok (.lload 6, 2) := by decide +kernel
theorem d_M_times_45 : decode b_M_times 45 = .ok (.lload 6, 2) := by decide +kernel
theorem d_M_times_47 : decode b_M_times 47 = .ok (.invokestatic 78, 3) := by decide +kernel
theorem d_M_times_50 : decode b_M_times 50 = .ok (.lstore 6, 2) := by decide +kernel
theorem d_M_times_52 : decode b_M_times 52 = .ok (.lload 8, 2) := by decide +kernel
theorem d_M_times_54 : decode b_M_times 54 = .ok (.ldc2_w 45, 3) := by decide +kernel
theorem d_M_times_57 : decode b_M_times 57 = .ok (.ldiv, 1) := by decide +kernel
theorem d_M_times_58 : decode b_M_times 58 = .ok (.lstore 8, 2) := by decide +kernel
theorem d_M_times_60 : decode b_M_times 60 = .ok (.goto (-49), 3) := by decide +kernel
theorem d_M_times_63 : decode b_M_times 63 = .ok (.lload 4, 2) := by decide +kernel
theorem d_M_times_65 : decode b_M_times 65 = .ok (.lreturn, 1) := by decide +kernel
theorem d_M_sum_0 : decode b_M_sum 0 = .ok (.lload_n 0, 1) := by decide +kernel
theorem d_M_sum_1 : decode b_M_sum 1 = .ok (.ldc2_w 35, 3) := by decide +kernel
theorem d_M_sum_4 : decode b_M_sum 4 = .ok (.lcmp, 1) := by decide +kernel
theorem d_M_sum_5 : decode b_M_sum 5 = .ok (.ifCond .eq 11, 3) := by decide +kernel
theorem d_M_sum_8 : decode b_M_sum 8 = .ok (.lload_n 2, 1) := by decide +kernel
theorem d_M_sum_9 : decode b_M_sum 9 = .ok (.ldc2_w 35, 3) := by decide +kernel
theorem d_M_sum_12 : decode b_M_sum 12 = .ok (.lcmp, 1) := by decide +kernel
theorem d_M_sum_13 : decode b_M_sum 13 = .ok (.ifCond .ne 17, 3) := by decide +kernel
theorem d_M_sum_16 : decode b_M_sum 16 = .ok (.lload_n 0, 1) := by decide +kernel
theorem d_M_sum_17 : decode b_M_sum 17 = .ok (.ldc2_w 35, 3) := by decide +kernel
theorem d_M_sum_20 : decode b_M_sum 20 = .ok (.lcmp, 1) := by decide +kernel
theorem d_M_sum_21 : decode b_M_sum 21 = .ok (.ifCond .ne 7, 3) := by decide +kernel
theorem d_M_sum_24 : decode b_M_sum 24 = .ok (.lload_n 2, 1) := by decide +kernel
theorem d_M_sum_25 : decode b_M_sum 25 = .ok (.goto 4, 3) := by decide +kernel
theorem d_M_sum_28 : decode b_M_sum 28 = .ok (.lload_n 0, 1) := by decide +kernel
theorem d_M_sum_29 : decode b_M_sum 29 = .ok (.lreturn, 1) := by decide +kernel
theorem d_M_sum_30 : decode b_M_sum 30 = .ok (.lload_n 0, 1) := by decide +kernel
theorem d_M_sum_31 : decode b_M_sum 31 = .ok (.invokestatic 64, 3) := by decide +kernel
theorem d_M_sum_34 : decode b_M_sum 34 = .ok (.lstore 4, 2) := by decide +kernel
theorem d_M_sum_36 : decode b_M_sum 36 = .ok (.lload_n 0, 1) := by decide +kernel
theorem d_M_sum_37 : decode b_M_sum 37 = .ok (.invokestatic 68, 3) := by decide +kernel
theorem d_M_sum_40 : decode b_M_sum 40 = .ok (.lstore 6, 2) := by decide +kernel
theorem d_M_sum_42 : decode b_M_sum 42 = .ok (.lload_n 2, 1) := by decide +kernel
theorem d_M_sum_43 : decode b_M_sum 43 = .ok (.invokestatic 64, 3) := by decide +kernel
theorem d_M_sum_46 : decode b_M_sum 46 = .ok (.lstore 8, 2) := by decide +kernel
theorem d_M_sum_48 : decode b_M_sum 48 = .ok (.lload_n 2, 1) := by decide +kernel
theorem d_M_sum_49 : decode b_M_sum 49 = .ok (.invokestatic 68, 3) := by decide +kernel
theorem d_M_sum_52 : decode b_M_sum 52 = .ok (.lstore 10, 2) := by decide +kernel
theorem d_M_sum_54 : decode b_M_sum 54 = .ok (.lload 4, 2) := by decide +kernel
theorem d_M_sum_56 : decode b_M_sum 56 = .ok (.lload 8, 2) := by decide +kernel
theorem d_M_sum_58 : decode b_M_sum 58 = .ok (.lcmp, 1) := by decide +kernel
theorem d_M_sum_59 : decode b_M_sum 59 = .ok (.ifCond .ne 15, 3) := by decide +kernel
theorem d_M_sum_62 : decode b_M_sum 62 = .ok (.lload 6, 2) := by decide +kernel
theorem d_M_sum_64 : decode b_M_sum 64 = .ok (.lload 10, 2) := by decide +kernel
theorem d_M_sum_66 : decode b_M_sum 66 = .ok (.lcmp, 1) := by decide +kernel
theorem d_M_sum_67 : decode b_M_sum 67 = .ok (.ifCond .eq 7, 3) := by decide +kernel
theorem d_M_sum_70 : decode b_M_sum 70 = .ok (.ldc2_w 35, 3) := by decide +kernel
theorem d_M_sum_73 : decode b_M_sum 73 = .ok (.lreturn, 1) := by decide +kernel
theorem d_M_sum_74 : decode b_M_sum 74 = .ok (.lload 4, 2) := by decide +kernel
theorem d_M_sum_76 : decode b_M_sum 76 = .ok (.lload 8, 2) := by decide +kernel
theorem d_M_sum_78 : decode b_M_sum 78 = .ok (.lcmp, 1) := by decide +kernel
theorem d_M_sum_79 : decode b_M_sum 79 = .ok (.ifCond .ne 31, 3) := by decide +kernel
theorem d_M_sum_82 : decode b_M_sum 82 = .ok (.ldc2_w 71, 3) := by decide +kernel
theorem d_M_sum_85 : decode b_M_sum 85 = .ok (.lload 4, 2) := by decide +kernel
theorem d_M_sum_87 : decode b_M_sum 87 = .ok (.lload 4, 2) := by decide +kernel
theorem d_M_sum_89 : decode b_M_sum 89 = .ok (.lmul, 1) := by decide +kernel
theorem d_M_sum_90 : decode b_M_sum 90 = .ok (.ldc2_w 73, 3) := by decide +kernel
theorem d_M_sum_93 : decode b_M_sum 93 = .ok (.lrem, 1) := by decide +kernel
theorem d_M_sum_94 : decode b_M_sum 94 = .ok (.lmul, 1) := by decide +kernel
theorem d_M_sum_95 : decode b_M_sum 95 = .ok (.ldc2_w 45, 3) := by decide +kernel
theorem d_M_sum_98 : decode b_M_sum 98 = .ok (.lload 6, 2) := by decide +kernel
theorem d_M_sum_100 : decode b_M_sum 100 = .ok (.lmul, 1) := by decide +kernel
theorem d_M_sum_101 : decode b_M_sum 101 = .ok (.ldc2_w 73, 3) := by decide +kernel
theorem d_M_sum_104 : decode b_M_sum 104 = .ok (.invokestatic 75, 3) := by decide +kernel
theorem d_M_sum_107 : decode b_M_sum 107 = .ok (.goto 25, 3) := by decide +kernel
theorem d_M_sum_110 : decode b_M_sum 110 = .ok (.lload 10, 2) := by decide +kernel
theorem d_M_sum_112 : decode b_M_sum 112 = .ok (.lload 6, 2) := by decide +kernel
theorem d_M_sum_114 : decode b_M_sum 114 = .ok (.lsub, 1) := by decide +kernel
theorem d_M_sum_115 : decode b_M_sum 115 = .ok (.lload 8, 2) := by decide +kernel
theorem d_M_sum_117 : decode b_M_sum 117 = .ok (.lload 4, 2) := by decide +kernel
theorem d_M_sum_119 : decode b_M_sum 119 = .ok (.lsub, 1) := by decide +kernel
theorem d_M_sum_120 : decode b_M_sum 120 = .ok (.ldc2_w 73, 3) := by decide +kernel
theorem d_M_sum_123 : decode b_M_sum 123 = .ok (.invokestatic 41, 3) := by decide +kernel
theorem d_M_sum_126 : decode b_M_sum 126 = .ok (.ldc2_w 73, 3) := by decide +kernel
theorem d_M_sum_129 : decode b_M_sum 129 = .ok (.invokestatic 75, 3) := by decide +kernel
theorem d_M_sum_132 : decode b_M_sum 132 = .ok (.lstore 12, 2) := by decide +kernel
theorem d_M_sum_134 : decode b_M_sum 134 = .ok (.lload 12, 2) := by decide +kernel
theorem d_M_sum_136 : decode b_M_sum 136 = .ok (.lload 12, 2) := by decide +kernel
theorem d_M_sum_138 : decode b_M_sum 138 = .ok (.lmul, 1) := by decide +kernel
theorem d_M_sum_139 : decode b_M_sum 139 = .ok (.ldc2_w 73, 3) := by decide +kernel
theorem d_M_sum_142 : decode b_M_sum 142 = .ok (.lrem, 1) := by decide +kernel
theorem d_M_sum_143 : decode b_M_sum 143 = .ok (.lload 4, 2) := by decide +kernel
theorem d_M_sum_145 : decode b_M_sum 145 = .ok (.lsub, 1) := by decide +kernel
theorem d_M_sum_146 : decode b_M_sum 146 = .ok (.lload 8, 2) := by decide +kernel
theorem d_M_sum_148 : decode b_M_sum 148 = .ok (.lsub, 1) := by decide +kernel
theorem d_M_sum_149 : decode b_M_sum 149 = .ok (.ldc2_w 73, 3) := by decide +kernel
theorem d_M_sum_152 : decode b_M_sum 152 = .ok (.invokestatic 41, 3) := by decide +kernel
theorem d_M_sum_155 : decode b_M_sum 155 = .ok (.lstore 14, 2) := by decide +kernel
theorem d_M_sum_157 : decode b_M_sum 157 = .ok (.lload 12, 2) := by decide +kernel
theorem d_M_sum_159 : decode b_M_sum 159 = .ok (.lload 4, 2) := by decide +kernel
theorem d_M_sum_161 : decode b_M_sum 161 = .ok (.lload 14, 2) := by decide +kernel
theorem d_M_sum_163 : decode b_M_sum 163 = .ok (.lsub, 1) := by decide +kernel
theorem d_M_sum_164 : decode b_M_sum 164 = .ok (.ldc2_w 73, 3) := by decide +kernel
theorem d_M_sum_167 : decode b_M_sum 167 = .ok (.invokestatic 41, 3) := by decide +kernel
theorem d_M_sum_170 : decode b_M_sum 170 = .ok (.lmul, 1) := by decide +kernel
theorem d_M_sum_171 : decode b_M_sum 171 = .ok (.ldc2_w 73, 3) := by decide +kernel
theorem d_M_sum_174 : decode b_M_sum 174 = .ok (.lrem, 1) := by decide +kernel
theorem d_M_sum_175 : decode b_M_sum 175 = .ok (.lload 6, 2) := by decide +kernel
theorem d_M_sum_177 : decode b_M_sum 177 = .ok (.lsub, 1) := by decide +kernel
theorem d_M_sum_178 : decode b_M_sum 178 = .ok (.ldc2_w 73, 3) := by decide +kernel
theorem d_M_sum_181 : decode b_M_sum 181 = .ok (.invokestatic 41, 3) := by decide +kernel
theorem d_M_sum_184 : decode b_M_sum 184 = .ok (.lstore 16, 2) := by decide +kernel
theorem d_M_sum_186 : decode b_M_sum 186 = .ok (.lload 14, 2) := by decide +kernel
theorem d_M_sum_188 : decode b_M_sum 188 = .ok (.ldc2_w 62, 3) := by decide +kernel
theorem d_M_sum_191 : decode b_M_sum 191 = .ok (.lmul, 1) := by decide +kernel
theorem d_M_sum_192 : decode b_M_sum 192 = .ok (.lload 16, 2) := by decide +kernel
theorem d_M_sum_194 : decode b_M_sum 194 = .ok (.ladd, 1) := by decide +kernel
theorem d_M_sum_195 : decode b_M_sum 195 = .ok (.lreturn, 1) := by decide +kernel
theorem d_M_xOf_0 : decode b_M_xOf 0 = .ok (.lload_n 0, 1) := by decide +kernel
theorem d_M_xOf_1 : decode b_M_xOf 1 = .ok (.ldc2_w 62, 3) := by decide +kernel
theorem d_M_xOf_4 : decode b_M_xOf 4 = .ok (.ldiv, 1) := by decide +kernel
theorem d_M_xOf_5 : decode b_M_xOf 5 = .ok (.lreturn, 1) := by decide +kernel
theorem d_M_yOf_0 : decode b_M_yOf 0 = .ok (.lload_n 0, 1) := by decide +kernel
theorem d_M_yOf_1 : decode b_M_yOf 1 = .ok (.ldc2_w 62, 3) := by decide +kernel
theorem d_M_yOf_4 : decode b_M_yOf 4 = .ok (.lrem, 1) := by decide +kernel
theorem d_M_yOf_5 : decode b_M_yOf 5 = .ok (.lreturn, 1) := by decide +kernel
theorem d_M_quotient_0 : decode b_M_quotient 0 = .ok (.lload_n 0, 1) := by decide +kernel
theorem d_M_quotient_1 : decode b_M_quotient 1 = .ok (.lload 4, 2) := by decide +kernel
theorem d_M_quotient_3 : decode b_M_quotient 3 = .ok (.invokestatic 41, 3) := by decide +kernel
theorem d_M_quotient_6 : decode b_M_quotient 6 = .ok (.lload_n 2, 1) := by decide +kernel
theorem d_M_quotient_7 : decode b_M_quotient 7 = .ok (.lload 4, 2) := by decide +kernel
theorem d_M_quotient_9 : decode b_M_quotient 9 = .ok (.ldc2_w 45, 3) := by decide +kernel
theorem d_M_quotient_12 : decode b_M_quotient 12 = .ok (.lsub, 1) := by decide +kernel
theorem d_M_quotient_13 : decode b_M_quotient 13 = .ok (.lload 4, 2) := by decide +kernel
theorem d_M_quotient_15 : decode b_M_quotient 15 = .ok (.invokestatic 47, 3) := by decide +kernel
theorem d_M_quotient_18 : decode b_M_quotient 18 = .ok (.lmul, 1) := by decide +kernel
theorem d_M_quotient_19 : decode b_M_quotient 19 = .ok (.lload 4, 2) := by decide +kernel
theorem d_M_quotient_21 : decode b_M_quotient 21 = .ok (.lrem, 1) := by decide +kernel
theorem d_M_quotient_22 : decode b_M_quotient 22 = .ok (.lreturn, 1) := by decide +kernel
theorem d_M_mod_0 : decode b_M_mod 0 = .ok (.lload_n 0, 1) := by decide +kernel
theorem d_M_mod_1 : decode b_M_mod 1 = .ok (.lload_n 2, 1) := by decide +kernel
theorem d_M_mod_2 : decode b_M_mod 2 = .ok (.lrem, 1) := by decide +kernel
theorem d_M_mod_3 : decode b_M_mod 3 = .ok (.lstore 4, 2) := by decide +kernel
theorem d_M_mod_5 : decode b_M_mod 5 = .ok (.lload 4, 2) := by decide +kernel
theorem d_M_mod_7 : decode b_M_mod 7 = .ok (.lconst 0, 1) := by decide +kernel
theorem d_M_mod_8 : decode b_M_mod 8 = .ok (.lcmp, 1) := by decide +kernel
theorem d_M_mod_9 : decode b_M_mod 9 = .ok (.ifCond .ge 10, 3) := by decide +kernel
theorem d_M_mod_12 : decode b_M_mod 12 = .ok (.lload 4, 2) := by decide +kernel
theorem d_M_mod_14 : decode b_M_mod 14 = .ok (.lload_n 2, 1) := by decide +kernel
theorem d_M_mod_15 : decode b_M_mod 15 = .ok (.ladd, 1) := by decide +kernel
theorem d_M_mod_16 : decode b_M_mod 16 = .ok (.goto 5, 3) := by decide +kernel
theorem d_M_mod_19 : decode b_M_mod 19 = .ok (.lload 4, 2) := by decide +kernel
theorem d_M_mod_21 : decode b_M_mod 21 = .ok (.lreturn, 1) := by decide +kernel
theorem d_M_power_0 : decode b_M_power 0 = .ok (.lconst 1, 1) := by decide +kernel
theorem d_M_power_1 : decode b_M_power 1 = .ok (.lstore 6, 2) := by decide +kernel
theorem d_M_power_3 : decode b_M_power 3 = .ok (.lload_n 0, 1) := by decide +kernel
theorem d_M_power_4 : decode b_M_power 4 = .ok (.lload 4, 2) := by decide +kernel
theorem d_M_power_6 : decode b_M_power 6 = .ok (.invokestatic 41, 3) := by decide +kernel
theorem d_M_power_9 : decode b_M_power 9 = .ok (.lstore 8, 2) := by decide +kernel
theorem d_M_power_11 : decode b_M_power 11 = .ok (.lload_n 2, 1) := by decide +kernel
theorem d_M_power_12 : decode b_M_power 12 = .ok (.lstore 10, 2) := by decide +kernel
theorem d_M_power_14 : decode b_M_power 14 = .ok (.lload 10, 2) := by decide +kernel
theorem d_M_power_16 : decode b_M_power 16 = .ok (.lconst 0, 1) := by decide +kernel
theorem d_M_power_17 : decode b_M_power 17 = .ok (.lcmp, 1) := by decide +kernel
theorem d_M_power_18 : decode b_M_power 18 = .ok (.ifCond .le 50, 3) := by decide +kernel
theorem d_M_power_21 : decode b_M_power 21 = .ok (.lload 10, 2) := by decide +kernel
theorem d_M_power_23 : decode b_M_power 23 = .ok (.ldc2_w 45, 3) := by decide +kernel
theorem d_M_power_26 : decode b_M_power 26 = .ok (.lrem, 1) := by decide +kernel
theorem d_M_power_27 : decode b_M_power 27 = .ok (.lconst 1, 1) := by decide +kernel
theorem d_M_power_28 : decode b_M_power 28 = .ok (.lcmp, 1) := by decide +kernel
theorem d_M_power_29 : decode b_M_power 29 = .ok (.ifCond .ne 14, 3) := by decide +kernel
theorem d_M_power_32 : decode b_M_power 32 = .ok (.lload 6, 2) := by decide +kernel
theorem d_M_power_34 : decode b_M_power 34 = .ok (.lload 8, 2) := by decide +kernel
theorem d_M_power_36 : decode b_M_power 36 = .ok (.lmul, 1) := by decide +kernel
theorem d_M_power_37 : decode b_M_power 37 = .ok (.lload 4, 2) := by decide +kernel
theorem d_M_power_39 : decode b_M_power 39 = .ok (.lrem, 1) := by decide +kernel
theorem d_M_power_40 : decode b_M_power 40 = .ok (.goto 5, 3) := by decide +kernel
theorem d_M_power_43 : decode b_M_power 43 = .ok (.lload 6, 2) := by decide +kernel
theorem d_M_power_45 : decode b_M_power 45 = .ok (.lstore 6, 2) := by decide +kernel
theorem d_M_power_47 : decode b_M_power 47 = .ok (.lload 8, 2) := by decide +kernel
theorem d_M_power_49 : decode b_M_power 49 = .ok (.lload 8, 2) := by decide +kernel
theorem d_M_power_51 : decode b_M_power 51 = .ok (.lmul, 1) := by decide +kernel
theorem d_M_power_52 : decode b_M_power 52 = .ok (.lload 4, 2) := by decide +kernel
theorem d_M_power_54 : decode b_M_power 54 = .ok (.lrem, 1) := by decide +kernel
theorem d_M_power_55 : decode b_M_power 55 = .ok (.lstore 8, 2) := by decide +kernel
theorem d_M_power_57 : decode b_M_power 57 = .ok (.lload 10, 2) := by decide +kernel
theorem d_M_power_59 : decode b_M_power 59 = .ok (.ldc2_w 45, 3) := by decide +kernel
theorem d_M_power_62 : decode b_M_power 62 = .ok (.ldiv, 1) := by decide +kernel
theorem d_M_power_63 : decode b_M_power 63 = .ok (.lstore 10, 2) := by decide +kernel
theorem d_M_power_65 : decode b_M_power 65 = .ok (.goto (-51), 3) := by decide +kernel
theorem d_M_power_68 : decode b_M_power 68 = .ok (.lload 6, 2) := by decide +kernel
theorem d_M_power_70 : decode b_M_power 70 = .ok (.lreturn, 1) := by decide +kernel
theorem d_M_codeOf_0 : decode b_M_codeOf 0 = .ok (.lload_n 0, 1) := by decide +kernel
theorem d_M_codeOf_1 : decode b_M_codeOf 1 = .ok (.ldc2_w 35, 3) := by decide +kernel
theorem d_M_codeOf_4 : decode b_M_codeOf 4 = .ok (.lcmp, 1) := by decide +kernel
theorem d_M_codeOf_5 : decode b_M_codeOf 5 = .ok (.ifCond .ne 7, 3) := by decide +kernel
theorem d_M_codeOf_8 : decode b_M_codeOf 8 = .ok (.lconst 0, 1) := by decide +kernel
theorem d_M_codeOf_9 : decode b_M_codeOf 9 = .ok (.goto 24, 3) := by decide +kernel
theorem d_M_codeOf_12 : decode b_M_codeOf 12 = .ok (.ldc2_w 45, 3) := by decide +kernel
theorem d_M_codeOf_15 : decode b_M_codeOf 15 = .ok (.lload_n 0, 1) := by decide +kernel
theorem d_M_codeOf_16 : decode b_M_codeOf 16 = .ok (.invokestatic 68, 3) := by decide +kernel
theorem d_M_codeOf_19 : decode b_M_codeOf 19 = .ok (.ldc2_w 45, 3) := by decide +kernel
theorem d_M_codeOf_22 : decode b_M_codeOf 22 = .ok (.lrem, 1) := by decide +kernel
theorem d_M_codeOf_23 : decode b_M_codeOf 23 = .ok (.ladd, 1) := by decide +kernel
theorem d_M_codeOf_24 : decode b_M_codeOf 24 = .ok (.ldc2_w 87, 3) := by decide +kernel
theorem d_M_codeOf_27 : decode b_M_codeOf 27 = .ok (.lmul, 1) := by decide +kernel
theorem d_M_codeOf_28 : decode b_M_codeOf 28 = .ok (.lload_n 0, 1) := by decide +kernel
theorem d_M_codeOf_29 : decode b_M_codeOf 29 = .ok (.invokestatic 64, 3) := by decide +kernel
theorem d_M_codeOf_32 : decode b_M_codeOf 32 = .ok (.ladd, 1) := by decide +kernel
theorem d_M_codeOf_33 : decode b_M_codeOf 33 = .ok (.lreturn, 1) := by decide +kernel
theorem d_M_pointOf_0 : decode b_M_pointOf 0 = .ok (.lload_n 0, 1) := by decide +kernel
theorem d_M_pointOf_1 : decode b_M_pointOf 1 = .ok (.bipush 32, 2) := by decide +kernel
theorem d_M_pointOf_3 : decode b_M_pointOf 3 = .ok (.lshr, 1) := by decide +kernel
theorem d_M_pointOf_4 : decode b_M_pointOf 4 = .ok (.lstore_n 2, 1) := by decide +kernel
theorem d_M_pointOf_5 : decode b_M_pointOf 5 = .ok (.lload_n 2, 1) := by decide +kernel
theorem d_M_pointOf_6 : decode b_M_pointOf 6 = .ok (.ldc2_w 45, 3) := by decide +kernel
theorem d_M_pointOf_9 : decode b_M_pointOf 9 = .ok (.lcmp, 1) := by decide +kernel
theorem d_M_pointOf_10 : decode b_M_pointOf 10 = .ok (.ifCond .eq 11, 3) := by decide +kernel
theorem d_M_pointOf_13 : decode b_M_pointOf 13 = .ok (.lload_n 2, 1) := by decide +kernel
theorem d_M_pointOf_14 : decode b_M_pointOf 14 = .ok (.ldc2_w 71, 3) := by decide +kernel
theorem d_M_pointOf_17 : decode b_M_pointOf 17 = .ok (.lcmp, 1) := by decide +kernel
theorem d_M_pointOf_18 : decode b_M_pointOf 18 = .ok (.ifCond .ne 29, 3) := by decide +kernel
theorem d_M_pointOf_21 : decode b_M_pointOf 21 = .ok (.lload_n 0, 1) := by decide +kernel
theorem d_M_pointOf_22 : decode b_M_pointOf 22 = .ok (.lload_n 2, 1) := by decide +kernel
theorem d_M_pointOf_23 : decode b_M_pointOf 23 = .ok (.ldc2_w 87, 3) := by decide +kernel
theorem d_M_pointOf_26 : decode b_M_pointOf 26 = .ok (.lmul, 1) := by decide +kernel
theorem d_M_pointOf_27 : decode b_M_pointOf 27 = .ok (.lsub, 1) := by decide +kernel
theorem d_M_pointOf_28 : decode b_M_pointOf 28 = .ok (.lload_n 2, 1) := by decide +kernel
theorem d_M_pointOf_29 : decode b_M_pointOf 29 = .ok (.ldc2_w 71, 3) := by decide +kernel
theorem d_M_pointOf_32 : decode b_M_pointOf 32 = .ok (.lcmp, 1) := by decide +kernel
theorem d_M_pointOf_33 : decode b_M_pointOf 33 = .ok (.ifCond .ne 7, 3) := by decide +kernel
theorem d_M_pointOf_36 : decode b_M_pointOf 36 = .ok (.iconst 1, 1) := by decide +kernel
theorem d_M_pointOf_37 : decode b_M_pointOf 37 = .ok (.goto 4, 3) := by decide +kernel
theorem d_M_pointOf_40 : decode b_M_pointOf 40 = .ok (.iconst 0, 1) := by decide +kernel
theorem d_M_pointOf_41 : decode b_M_pointOf 41 = .ok (.invokestatic 89, 3) := by decide +kernel
theorem d_M_pointOf_44 : decode b_M_pointOf 44 = .ok (.goto 6, 3) := by decide +kernel
theorem d_M_pointOf_47 : decode b_M_pointOf 47 = .ok (.ldc2_w 35, 3) := by decide +kernel
theorem d_M_pointOf_50 : decode b_M_pointOf 50 = .ok (.lreturn, 1) := by decide +kernel
theorem d_M_lift_0 : decode b_M_lift 0 = .ok (.lload_n 0, 1) := by decide +kernel
theorem d_M_lift_1 : decode b_M_lift 1 = .ok (.lconst 0, 1) := by decide +kernel
theorem d_M_lift_2 : decode b_M_lift 2 = .ok (.lcmp, 1) := by decide +kernel
theorem d_M_lift_3 : decode b_M_lift 3 = .ok (.ifCond .lt 11, 3) := by decide +kernel
theorem d_M_lift_6 : decode b_M_lift 6 = .ok (.lload_n 0, 1) := by decide +kernel
theorem d_M_lift_7 : decode b_M_lift 7 = .ok (.ldc2_w 73, 3) := by decide +kernel
theorem d_M_lift_10 : decode b_M_lift 10 = .ok (.lcmp, 1) := by decide +kernel
theorem d_M_lift_11 : decode b_M_lift 11 = .ok (.ifCond .lt 7, 3) := by decide +kernel
theorem d_M_lift_14 : decode b_M_lift 14 = .ok (.ldc2_w 35, 3) := by decide +kernel
theorem d_M_lift_17 : decode b_M_lift 17 = .ok (.lreturn, 1) := by decide +kernel
theorem d_M_lift_18 : decode b_M_lift 18 = .ok (.lload_n 0, 1) := by decide +kernel
theorem d_M_lift_19 : decode b_M_lift 19 = .ok (.lload_n 0, 1) := by decide +kernel
theorem d_M_lift_20 : decode b_M_lift 20 = .ok (.lmul, 1) := by decide +kernel
theorem d_M_lift_21 : decode b_M_lift 21 = .ok (.ldc2_w 73, 3) := by decide +kernel
theorem d_M_lift_24 : decode b_M_lift 24 = .ok (.lrem, 1) := by decide +kernel
theorem d_M_lift_25 : decode b_M_lift 25 = .ok (.lload_n 0, 1) := by decide +kernel
theorem d_M_lift_26 : decode b_M_lift 26 = .ok (.lmul, 1) := by decide +kernel
theorem d_M_lift_27 : decode b_M_lift 27 = .ok (.ldc2_w 83, 3) := by decide +kernel
theorem d_M_lift_30 : decode b_M_lift 30 = .ok (.ladd, 1) := by decide +kernel
theorem d_M_lift_31 : decode b_M_lift 31 = .ok (.ldc2_w 73, 3) := by decide +kernel
theorem d_M_lift_34 : decode b_M_lift 34 = .ok (.lrem, 1) := by decide +kernel
theorem d_M_lift_35 : decode b_M_lift 35 = .ok (.lstore_n 3, 1) := by decide +kernel
theorem d_M_lift_36 : decode b_M_lift 36 = .ok (.lload_n 3, 1) := by decide +kernel
theorem d_M_lift_37 : decode b_M_lift 37 = .ok (.ldc2_w 85, 3) := by decide +kernel
theorem d_M_lift_40 : decode b_M_lift 40 = .ok (.ldc2_w 73, 3) := by decide +kernel
theorem d_M_lift_43 : decode b_M_lift 43 = .ok (.invokestatic 47, 3) := by decide +kernel
theorem d_M_lift_46 : decode b_M_lift 46 = .ok (.lstore 5, 2) := by decide +kernel
theorem d_M_lift_48 : decode b_M_lift 48 = .ok (.lload 5, 2) := by decide +kernel
theorem d_M_lift_50 : decode b_M_lift 50 = .ok (.lload 5, 2) := by decide +kernel
theorem d_M_lift_52 : decode b_M_lift 52 = .ok (.lmul, 1) := by decide +kernel
theorem d_M_lift_53 : decode b_M_lift 53 = .ok (.ldc2_w 73, 3) := by decide +kernel
theorem d_M_lift_56 : decode b_M_lift 56 = .ok (.lrem, 1) := by decide +kernel
theorem d_M_lift_57 : decode b_M_lift 57 = .ok (.lload_n 3, 1) := by decide +kernel
theorem d_M_lift_58 : decode b_M_lift 58 = .ok (.lcmp, 1) := by decide +kernel
theorem d_M_lift_59 : decode b_M_lift 59 = .ok (.ifCond .eq 7, 3) := by decide +kernel
theorem d_M_lift_62 : decode b_M_lift 62 = .ok (.ldc2_w 35, 3) := by decide +kernel
theorem d_M_lift_65 : decode b_M_lift 65 = .ok (.lreturn, 1) := by decide +kernel
theorem d_M_lift_66 : decode b_M_lift 66 = .ok (.lload_n 0, 1) := by decide +kernel
theorem d_M_lift_67 : decode b_M_lift 67 = .ok (.ldc2_w 62, 3) := by decide +kernel
theorem d_M_lift_70 : decode b_M_lift 70 = .ok (.lmul, 1) := by decide +kernel
theorem d_M_lift_71 : decode b_M_lift 71 = .ok (.lload 5, 2) := by decide +kernel
theorem d_M_lift_73 : decode b_M_lift 73 = .ok (.ldc2_w 45, 3) := by decide +kernel
theorem d_M_lift_76 : decode b_M_lift 76 = .ok (.lrem, 1) := by decide +kernel
theorem d_M_lift_77 : decode b_M_lift 77 = .ok (.lconst 1, 1) := by decide +kernel
theorem d_M_lift_78 : decode b_M_lift 78 = .ok (.lcmp, 1) := by decide +kernel
theorem d_M_lift_79 : decode b_M_lift 79 = .ok (.ifCond .ne 7, 3) := by decide +kernel
theorem d_M_lift_82 : decode b_M_lift 82 = .ok (.iconst 1, 1) := by decide +kernel
theorem d_M_lift_83 : decode b_M_lift 83 = .ok (.goto 4, 3) := by decide +kernel
theorem d_M_lift_86 : decode b_M_lift 86 = .ok (.iconst 0, 1) := by decide +kernel
theorem d_M_lift_87 : decode b_M_lift 87 = .ok (.iload_n 2, 1) := by decide +kernel
theorem d_M_lift_88 : decode b_M_lift 88 = .ok (.if_icmp .ne 8, 3) := by decide +kernel
theorem d_M_lift_91 : decode b_M_lift 91 = .ok (.lload 5, 2) := by decide +kernel
theorem d_M_lift_93 : decode b_M_lift 93 = .ok (.goto 9, 3) := by decide +kernel
theorem d_M_lift_96 : decode b_M_lift 96 = .ok (.ldc2_w 73, 3) := by decide +kernel
theorem d_M_lift_99 : decode b_M_lift 99 = .ok (.lload 5, 2) := by decide +kernel
theorem d_M_lift_101 : decode b_M_lift 101 = .ok (.lsub, 1) := by decide +kernel
theorem d_M_lift_102 : decode b_M_lift 102 = .ok (.ladd, 1) := by decide +kernel
theorem d_M_lift_103 : decode b_M_lift 103 = .ok (.lreturn, 1) := by decide +kernel
theorem d_M_isScalar_0 : decode b_M_isScalar 0 = .ok (.iload_n 0, 1) := by decide +kernel
theorem d_M_isScalar_1 : decode b_M_isScalar 1 = .ok (.ifCond .lt 16, 3) := by decide +kernel
theorem d_M_isScalar_4 : decode b_M_isScalar 4 = .ok (.iload_n 0, 1) := by decide +kernel
theorem d_M_isScalar_5 : decode b_M_isScalar 5 = .ok (.i2l, 1) := by decide +kernel
theorem d_M_isScalar_6 : decode b_M_isScalar 6 = .ok (.ldc2_w 93, 3) := by decide +kernel
theorem d_M_isScalar_9 : decode b_M_isScalar 9 = .ok (.lcmp, 1) := by decide +kernel
theorem d_M_isScalar_10 : decode b_M_isScalar 10 = .ok (.ifCond .ge 7, 3) := by decide +kernel
theorem d_M_isScalar_13 : decode b_M_isScalar 13 = .ok (.iconst 1, 1) := by decide +kernel
theorem d_M_isScalar_14 : decode b_M_isScalar 14 = .ok (.goto 4, 3) := by decide +kernel
theorem d_M_isScalar_17 : decode b_M_isScalar 17 = .ok (.iconst 0, 1) := by decide +kernel
theorem d_M_isScalar_18 : decode b_M_isScalar 18 = .ok (.ireturn, 1) := by decide +kernel
theorem d_M_digest_0 : decode b_M_digest 0 = .ok (.lload_n 0, 1) := by decide +kernel
theorem d_M_digest_1 : decode b_M_digest 1 = .ok (.ldc2_w 57, 3) := by decide +kernel
theorem d_M_digest_4 : decode b_M_digest 4 = .ok (.invokestatic 59, 3) := by decide +kernel
theorem d_M_digest_7 : decode b_M_digest 7 = .ok (.bipush 34, 2) := by decide +kernel
theorem d_M_digest_9 : decode b_M_digest 9 = .ok (.lushr, 1) := by decide +kernel
theorem d_M_digest_10 : decode b_M_digest 10 = .ok (.lreturn, 1) := by decide +kernel
theorem d_M_h_0 : decode b_M_h 0 = .ok (.lload_n 0, 1) := by decide +kernel
theorem d_M_h_1 : decode b_M_h 1 = .ok (.ldc2_w 51, 3) := by decide +kernel
theorem d_M_h_4 : decode b_M_h 4 = .ok (.lxor, 1) := by decide +kernel
theorem d_M_h_5 : decode b_M_h 5 = .ok (.ldc2_w 53, 3) := by decide +kernel
theorem d_M_h_8 : decode b_M_h 8 = .ok (.lmul, 1) := by decide +kernel
theorem d_M_h_9 : decode b_M_h 9 = .ok (.lload_n 2, 1) := by decide +kernel
theorem d_M_h_10 : decode b_M_h 10 = .ok (.ladd, 1) := by decide +kernel
theorem d_M_h_11 : decode b_M_h 11 = .ok (.lstore 4, 2) := by decide +kernel
theorem d_M_h_13 : decode b_M_h 13 = .ok (.lload 4, 2) := by decide +kernel
theorem d_M_h_15 : decode b_M_h 15 = .ok (.lload 4, 2) := by decide +kernel
theorem d_M_h_17 : decode b_M_h 17 = .ok (.bipush 31, 2) := by decide +kernel
theorem d_M_h_19 : decode b_M_h 19 = .ok (.lushr, 1) := by decide +kernel
theorem d_M_h_20 : decode b_M_h 20 = .ok (.lxor, 1) := by decide +kernel
theorem d_M_h_21 : decode b_M_h 21 = .ok (.lstore 4, 2) := by decide +kernel
theorem d_M_h_23 : decode b_M_h 23 = .ok (.lload 4, 2) := by decide +kernel
theorem d_M_h_25 : decode b_M_h 25 = .ok (.ldc2_w 55, 3) := by decide +kernel
theorem d_M_h_28 : decode b_M_h 28 = .ok (.lmul, 1) := by decide +kernel
theorem d_M_h_29 : decode b_M_h 29 = .ok (.lstore 4, 2) := by decide +kernel
theorem d_M_h_31 : decode b_M_h 31 = .ok (.lload 4, 2) := by decide +kernel
theorem d_M_h_33 : decode b_M_h 33 = .ok (.lload 4, 2) := by decide +kernel
theorem d_M_h_35 : decode b_M_h 35 = .ok (.bipush 28, 2) := by decide +kernel
theorem d_M_h_37 : decode b_M_h 37 = .ok (.lushr, 1) := by decide +kernel
theorem d_M_h_38 : decode b_M_h 38 = .ok (.lxor, 1) := by decide +kernel
theorem d_M_h_39 : decode b_M_h 39 = .ok (.lreturn, 1) := by decide +kernel
theorem d_M_odd_0 : decode b_M_odd 0 = .ok (.lload_n 0, 1) := by decide +kernel
theorem d_M_odd_1 : decode b_M_odd 1 = .ok (.invokestatic 68, 3) := by decide +kernel
theorem d_M_odd_4 : decode b_M_odd 4 = .ok (.ldc2_w 45, 3) := by decide +kernel
theorem d_M_odd_7 : decode b_M_odd 7 = .ok (.lrem, 1) := by decide +kernel
theorem d_M_odd_8 : decode b_M_odd 8 = .ok (.lconst 1, 1) := by decide +kernel
theorem d_M_odd_9 : decode b_M_odd 9 = .ok (.lcmp, 1) := by decide +kernel
theorem d_M_odd_10 : decode b_M_odd 10 = .ok (.ifCond .ne 7, 3) := by decide +kernel
theorem d_M_odd_13 : decode b_M_odd 13 = .ok (.iconst 1, 1) := by decide +kernel
theorem d_M_odd_14 : decode b_M_odd 14 = .ok (.goto 4, 3) := by decide +kernel
theorem d_M_odd_17 : decode b_M_odd 17 = .ok (.iconst 0, 1) := by decide +kernel
theorem d_M_odd_18 : decode b_M_odd 18 = .ok (.ireturn, 1) := by decide +kernel
theorem d_M_challenge_0 : decode b_M_challenge 0 = .ok (.lload_n 0, 1) := by decide +kernel
theorem d_M_challenge_1 : decode b_M_challenge 1 = .ok (.ldc2_w 87, 3) := by decide +kernel
theorem d_M_challenge_4 : decode b_M_challenge 4 = .ok (.lmul, 1) := by decide +kernel
theorem d_M_challenge_5 : decode b_M_challenge 5 = .ok (.lload_n 2, 1) := by decide +kernel
theorem d_M_challenge_6 : decode b_M_challenge 6 = .ok (.ladd, 1) := by decide +kernel
theorem d_M_challenge_7 : decode b_M_challenge 7 = .ok (.ldc2_w 141, 3) := by decide +kernel
theorem d_M_challenge_10 : decode b_M_challenge 10 = .ok (.invokestatic 59, 3) := by decide +kernel
theorem d_M_challenge_13 : decode b_M_challenge 13 = .ok (.lload 4, 2) := by decide +kernel
theorem d_M_challenge_15 : decode b_M_challenge 15 = .ok (.invokestatic 59, 3) := by decide +kernel
theorem d_M_challenge_18 : decode b_M_challenge 18 = .ok (.bipush 33, 2) := by decide +kernel
theorem d_M_challenge_20 : decode b_M_challenge 20 = .ok (.lushr, 1) := by decide +kernel
theorem d_M_challenge_21 : decode b_M_challenge 21 = .ok (.ldc2_w 93, 3) := by decide +kernel
theorem d_M_challenge_24 : decode b_M_challenge 24 = .ok (.lrem, 1) := by decide +kernel
theorem d_M_challenge_25 : decode b_M_challenge 25 = .ok (.lreturn, 1) := by decide +kernel
theorem d_M_bytesOf_0 : decode b_M_bytesOf 0 = .ok (.iload_n 0, 1) := by decide +kernel
theorem d_M_bytesOf_1 : decode b_M_bytesOf 1 = .ok (.sipush 128, 3) := by decide +kernel
theorem d_M_bytesOf_4 : decode b_M_bytesOf 4 = .ok (.if_icmp .ge 7, 3) := by decide +kernel
theorem d_M_bytesOf_7 : decode b_M_bytesOf 7 = .ok (.iconst 1, 1) := by decide +kernel
theorem d_M_bytesOf_8 : decode b_M_bytesOf 8 = .ok (.goto 24, 3) := by decide +kernel
theorem d_M_bytesOf_11 : decode b_M_bytesOf 11 = .ok (.iload_n 0, 1) := by decide +kernel
theorem d_M_bytesOf_12 : decode b_M_bytesOf 12 = .ok (.ldc 153, 2) := by decide +kernel
theorem d_M_bytesOf_14 : decode b_M_bytesOf 14 = .ok (.if_icmp .ge 7, 3) := by decide +kernel
theorem d_M_bytesOf_17 : decode b_M_bytesOf 17 = .ok (.iconst 2, 1) := by decide +kernel
theorem d_M_bytesOf_18 : decode b_M_bytesOf 18 = .ok (.goto 14, 3) := by decide +kernel
theorem d_M_bytesOf_21 : decode b_M_bytesOf 21 = .ok (.iload_n 0, 1) := by decide +kernel
theorem d_M_bytesOf_22 : decode b_M_bytesOf 22 = .ok (.ldc 154, 2) := by decide +kernel
theorem d_M_bytesOf_24 : decode b_M_bytesOf 24 = .ok (.if_icmp .ge 7, 3) := by decide +kernel
theorem d_M_bytesOf_27 : decode b_M_bytesOf 27 = .ok (.iconst 3, 1) := by decide +kernel
theorem d_M_bytesOf_28 : decode b_M_bytesOf 28 = .ok (.goto 4, 3) := by decide +kernel
theorem d_M_bytesOf_31 : decode b_M_bytesOf 31 = .ok (.iconst 4, 1) := by decide +kernel
theorem d_M_bytesOf_32 : decode b_M_bytesOf 32 = .ok (.ireturn, 1) := by decide +kernel
