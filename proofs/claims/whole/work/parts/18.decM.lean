theorem d_M_thrown_0 : decode b_M_thrown 0 = .ok (.aload_n 0, 1) := by decide +kernel
theorem d_M_thrown_1 : decode b_M_thrown 1 = .ok (.getfield 37, 3) := by decide +kernel
theorem d_M_thrown_4 : decode b_M_thrown 4 = .ok (.ireturn, 1) := by decide +kernel
theorem d_M_secret_0 : decode b_M_secret 0 = .ok (.aload_n 0, 1) := by decide +kernel
theorem d_M_secret_1 : decode b_M_secret 1 = .ok (.iload_n 1, 1) := by decide +kernel
theorem d_M_secret_2 : decode b_M_secret 2 = .ok (.invokestatic 95, 3) := by decide +kernel
theorem d_M_secret_5 : decode b_M_secret 5 = .ok (.ifCond .ne 7, 3) := by decide +kernel
theorem d_M_secret_8 : decode b_M_secret 8 = .ok (.iconst 1, 1) := by decide +kernel
theorem d_M_secret_9 : decode b_M_secret 9 = .ok (.goto 22, 3) := by decide +kernel
theorem d_M_secret_12 : decode b_M_secret 12 = .ok (.iload_n 2, 1) := by decide +kernel
theorem d_M_secret_13 : decode b_M_secret 13 = .ok (.iconst 1, 1) := by decide +kernel
theorem d_M_secret_14 : decode b_M_secret 14 = .ok (.if_icmp .lt 12, 3) := by decide +kernel
theorem d_M_secret_17 : decode b_M_secret 17 = .ok (.iload_n 2, 1) := by decide +kernel
theorem d_M_secret_18 : decode b_M_secret 18 = .ok (.i2l, 1) := by decide +kernel
theorem d_M_secret_19 : decode b_M_secret 19 = .ok (.ldc2_w 93, 3) := by decide +kernel
theorem d_M_secret_22 : decode b_M_secret 22 = .ok (.lcmp, 1) := by decide +kernel
theorem d_M_secret_23 : decode b_M_secret 23 = .ok (.ifCond .lt 7, 3) := by decide +kernel
theorem d_M_secret_26 : decode b_M_secret 26 = .ok (.iconst 2, 1) := by decide +kernel
theorem d_M_secret_27 : decode b_M_secret 27 = .ok (.goto 4, 3) := by decide +kernel
theorem d_M_secret_30 : decode b_M_secret 30 = .ok (.iconst 0, 1) := by decide +kernel
theorem d_M_secret_31 : decode b_M_secret 31 = .ok (.putfield 37, 3) := by decide +kernel
theorem d_M_secret_34 : decode b_M_secret 34 = .ok (.aload_n 0, 1) := by decide +kernel
theorem d_M_secret_35 : decode b_M_secret 35 = .ok (.getfield 37, 3) := by decide +kernel
theorem d_M_secret_38 : decode b_M_secret 38 = .ok (.ifCond .eq 5, 3) := by decide +kernel
theorem d_M_secret_41 : decode b_M_secret 41 = .ok (.lconst 0, 1) := by decide +kernel
theorem d_M_secret_42 : decode b_M_secret 42 = .ok (.lreturn, 1) := by decide +kernel
theorem d_M_secret_43 : decode b_M_secret 43 = .ok (.aload_n 0, 1) := by decide +kernel
theorem d_M_secret_44 : decode b_M_secret 44 = .ok (.getfield 13, 3) := by decide +kernel
theorem d_M_secret_47 : decode b_M_secret 47 = .ok (.iload_n 1, 1) := by decide +kernel
theorem d_M_secret_48 : decode b_M_secret 48 = .ok (.iload_n 2, 1) := by decide +kernel
theorem d_M_secret_49 : decode b_M_secret 49 = .ok (.i2l, 1) := by decide +kernel
theorem d_M_secret_50 : decode b_M_secret 50 = .ok (.lastore, 1) := by decide +kernel
theorem d_M_secret_51 : decode b_M_secret 51 = .ok (.aload_n 0, 1) := by decide +kernel
theorem d_M_secret_52 : decode b_M_secret 52 = .ok (.getfield 7, 3) := by decide +kernel
theorem d_M_secret_55 : decode b_M_secret 55 = .ok (.iload_n 1, 1) := by decide +kernel
theorem d_M_secret_56 : decode b_M_secret 56 = .ok (.iload_n 2, 1) := by decide +kernel
theorem d_M_secret_57 : decode b_M_secret 57 = .ok (.i2l, 1) := by decide +kernel
theorem d_M_secret_58 : decode b_M_secret 58 = .ok (.invokestatic 99, 3) := by decide +kernel
theorem d_M_secret_61 : decode b_M_secret 61 = .ok (.invokestatic 103, 3) := by decide +kernel
theorem d_M_secret_64 : decode b_M_secret 64 = .ok (.lastore, 1) := by decide +kernel
theorem d_M_secret_65 : decode b_M_secret 65 = .ok (.aload_n 0, 1) := by decide +kernel
theorem d_M_secret_66 : decode b_M_secret 66 = .ok (.getfield 7, 3) := by decide +kernel
theorem d_M_secret_69 : decode b_M_secret 69 = .ok (.iload_n 1, 1) := by decide +kernel
theorem d_M_secret_70 : decode b_M_secret 70 = .ok (.laload, 1) := by decide +kernel
theorem d_M_secret_71 : decode b_M_secret 71 = .ok (.invokestatic 106, 3) := by decide +kernel
theorem d_M_secret_74 : decode b_M_secret 74 = .ok (.lreturn, 1) := by decide +kernel
theorem d_M_open_0 : decode b_M_open 0 = .ok (.aload_n 0, 1) := by decide +kernel
theorem d_M_open_1 : decode b_M_open 1 = .ok (.iload_n 1, 1) := by decide +kernel
theorem d_M_open_2 : decode b_M_open 2 = .ok (.invokestatic 95, 3) := by decide +kernel
theorem d_M_open_5 : decode b_M_open 5 = .ok (.ifCond .ne 7, 3) := by decide +kernel
theorem d_M_open_8 : decode b_M_open 8 = .ok (.iconst 1, 1) := by decide +kernel
theorem d_M_open_9 : decode b_M_open 9 = .ok (.goto 19, 3) := by decide +kernel
theorem d_M_open_12 : decode b_M_open 12 = .ok (.lload_n 2, 1) := by decide +kernel
theorem d_M_open_13 : decode b_M_open 13 = .ok (.invokestatic 109, 3) := by decide +kernel
theorem d_M_open_16 : decode b_M_open 16 = .ok (.ldc2_w 35, 3) := by decide +kernel
theorem d_M_open_19 : decode b_M_open 19 = .ok (.lcmp, 1) := by decide +kernel
theorem d_M_open_20 : decode b_M_open 20 = .ok (.ifCond .ne 7, 3) := by decide +kernel
theorem d_M_open_23 : decode b_M_open 23 = .ok (.iconst 2, 1) := by decide +kernel
theorem d_M_open_24 : decode b_M_open 24 = .ok (.goto 4, 3) := by decide +kernel
theorem d_M_open_27 : decode b_M_open 27 = .ok (.iconst 0, 1) := by decide +kernel
theorem d_M_open_28 : decode b_M_open 28 = .ok (.putfield 37, 3) := by decide +kernel
theorem d_M_open_31 : decode b_M_open 31 = .ok (.aload_n 0, 1) := by decide +kernel
theorem d_M_open_32 : decode b_M_open 32 = .ok (.getfield 37, 3) := by decide +kernel
theorem d_M_open_35 : decode b_M_open 35 = .ok (.ifCond .ne 12, 3) := by decide +kernel
theorem d_M_open_38 : decode b_M_open 38 = .ok (.aload_n 0, 1) := by decide +kernel
theorem d_M_open_39 : decode b_M_open 39 = .ok (.iload_n 1, 1) := by decide +kernel
theorem d_M_open_40 : decode b_M_open 40 = .ok (.lload_n 2, 1) := by decide +kernel
theorem d_M_open_41 : decode b_M_open 41 = .ok (.invokestatic 109, 3) := by decide +kernel
theorem d_M_open_44 : decode b_M_open 44 = .ok (.invokevirtual 112, 3) := by decide +kernel
theorem d_M_open_47 : decode b_M_open 47 = .ok (.return_, 1) := by decide +kernel
theorem d_M_lay_0 : decode b_M_lay 0 = .ok (.aload_n 0, 1) := by decide +kernel
theorem d_M_lay_1 : decode b_M_lay 1 = .ok (.getfield 7, 3) := by decide +kernel
theorem d_M_lay_4 : decode b_M_lay 4 = .ok (.iload_n 1, 1) := by decide +kernel
theorem d_M_lay_5 : decode b_M_lay 5 = .ok (.lload_n 2, 1) := by decide +kernel
theorem d_M_lay_6 : decode b_M_lay 6 = .ok (.lastore, 1) := by decide +kernel
theorem d_M_lay_7 : decode b_M_lay 7 = .ok (.aload_n 0, 1) := by decide +kernel
theorem d_M_lay_8 : decode b_M_lay 8 = .ok (.getfield 13, 3) := by decide +kernel
theorem d_M_lay_11 : decode b_M_lay 11 = .ok (.iload_n 1, 1) := by decide +kernel
theorem d_M_lay_12 : decode b_M_lay 12 = .ok (.lconst 0, 1) := by decide +kernel
theorem d_M_lay_13 : decode b_M_lay 13 = .ok (.lastore, 1) := by decide +kernel
theorem d_M_lay_14 : decode b_M_lay 14 = .ok (.return_, 1) := by decide +kernel
theorem d_M_code_0 : decode b_M_code 0 = .ok (.aload_n 0, 1) := by decide +kernel
theorem d_M_code_1 : decode b_M_code 1 = .ok (.iload_n 1, 1) := by decide +kernel
theorem d_M_code_2 : decode b_M_code 2 = .ok (.invokestatic 95, 3) := by decide +kernel
theorem d_M_code_5 : decode b_M_code 5 = .ok (.ifCond .eq 7, 3) := by decide +kernel
theorem d_M_code_8 : decode b_M_code 8 = .ok (.iconst 0, 1) := by decide +kernel
theorem d_M_code_9 : decode b_M_code 9 = .ok (.goto 4, 3) := by decide +kernel
theorem d_M_code_12 : decode b_M_code 12 = .ok (.iconst 1, 1) := by decide +kernel
theorem d_M_code_13 : decode b_M_code 13 = .ok (.putfield 37, 3) := by decide +kernel
theorem d_M_code_16 : decode b_M_code 16 = .ok (.aload_n 0, 1) := by decide +kernel
theorem d_M_code_17 : decode b_M_code 17 = .ok (.getfield 37, 3) := by decide +kernel
theorem d_M_code_20 : decode b_M_code 20 = .ok (.ifCond .ne 15, 3) := by decide +kernel
theorem d_M_code_23 : decode b_M_code 23 = .ok (.aload_n 0, 1) := by decide +kernel
theorem d_M_code_24 : decode b_M_code 24 = .ok (.getfield 7, 3) := by decide +kernel
theorem d_M_code_27 : decode b_M_code 27 = .ok (.iload_n 1, 1) := by decide +kernel
theorem d_M_code_28 : decode b_M_code 28 = .ok (.laload, 1) := by decide +kernel
theorem d_M_code_29 : decode b_M_code 29 = .ok (.invokestatic 106, 3) := by decide +kernel
theorem d_M_code_32 : decode b_M_code 32 = .ok (.goto 4, 3) := by decide +kernel
theorem d_M_code_35 : decode b_M_code 35 = .ok (.lconst 0, 1) := by decide +kernel
theorem d_M_code_36 : decode b_M_code 36 = .ok (.lreturn, 1) := by decide +kernel
theorem d_M_even_0 : decode b_M_even 0 = .ok (.aload_n 0, 1) := by decide +kernel
theorem d_M_even_1 : decode b_M_even 1 = .ok (.iconst 0, 1) := by decide +kernel
theorem d_M_even_2 : decode b_M_even 2 = .ok (.putfield 37, 3) := by decide +kernel
theorem d_M_even_5 : decode b_M_even 5 = .ok (.iload_n 1, 1) := by decide +kernel
theorem d_M_even_6 : decode b_M_even 6 = .ok (.i2l, 1) := by decide +kernel
theorem d_M_even_7 : decode b_M_even 7 = .ok (.iconst 0, 1) := by decide +kernel
theorem d_M_even_8 : decode b_M_even 8 = .ok (.invokestatic 89, 3) := by decide +kernel
theorem d_M_even_11 : decode b_M_even 11 = .ok (.invokestatic 106, 3) := by decide +kernel
theorem d_M_even_14 : decode b_M_even 14 = .ok (.lreturn, 1) := by decide +kernel
theorem d_M_tweak_0 : decode b_M_tweak 0 = .ok (.aload_n 0, 1) := by decide +kernel
theorem d_M_tweak_1 : decode b_M_tweak 1 = .ok (.iload_n 1, 1) := by decide +kernel
theorem d_M_tweak_2 : decode b_M_tweak 2 = .ok (.invokestatic 95, 3) := by decide +kernel
theorem d_M_tweak_5 : decode b_M_tweak 5 = .ok (.ifCond .ne 7, 3) := by decide +kernel
theorem d_M_tweak_8 : decode b_M_tweak 8 = .ok (.iconst 1, 1) := by decide +kernel
theorem d_M_tweak_9 : decode b_M_tweak 9 = .ok (.goto 27, 3) := by decide +kernel
theorem d_M_tweak_12 : decode b_M_tweak 12 = .ok (.aload_n 0, 1) := by decide +kernel
theorem d_M_tweak_13 : decode b_M_tweak 13 = .ok (.iload_n 1, 1) := by decide +kernel
theorem d_M_tweak_14 : decode b_M_tweak 14 = .ok (.invokevirtual 116, 3) := by decide +kernel
theorem d_M_tweak_17 : decode b_M_tweak 17 = .ok (.ifCond .ne 7, 3) := by decide +kernel
theorem d_M_tweak_20 : decode b_M_tweak 20 = .ok (.iconst 2, 1) := by decide +kernel
theorem d_M_tweak_21 : decode b_M_tweak 21 = .ok (.goto 15, 3) := by decide +kernel
theorem d_M_tweak_24 : decode b_M_tweak 24 = .ok (.iload_n 2, 1) := by decide +kernel
theorem d_M_tweak_25 : decode b_M_tweak 25 = .ok (.invokestatic 119, 3) := by decide +kernel
theorem d_M_tweak_28 : decode b_M_tweak 28 = .ok (.ifCond .ne 7, 3) := by decide +kernel
theorem d_M_tweak_31 : decode b_M_tweak 31 = .ok (.iconst 3, 1) := by decide +kernel
theorem d_M_tweak_32 : decode b_M_tweak 32 = .ok (.goto 4, 3) := by decide +kernel
theorem d_M_tweak_35 : decode b_M_tweak 35 = .ok (.iconst 0, 1) := by decide +kernel
theorem d_M_tweak_36 : decode b_M_tweak 36 = .ok (.putfield 37, 3) := by decide +kernel
theorem d_M_tweak_39 : decode b_M_tweak 39 = .ok (.aload_n 0, 1) := by decide +kernel
theorem d_M_tweak_40 : decode b_M_tweak 40 = .ok (.getfield 37, 3) := by decide +kernel
theorem d_M_tweak_43 : decode b_M_tweak 43 = .ok (.ifCond .eq 5, 3) := by decide +kernel
theorem d_M_tweak_46 : decode b_M_tweak 46 = .ok (.lconst 0, 1) := by decide +kernel
theorem d_M_tweak_47 : decode b_M_tweak 47 = .ok (.lreturn, 1) := by decide +kernel
theorem d_M_tweak_48 : decode b_M_tweak 48 = .ok (.iload_n 3, 1) := by decide +kernel
theorem d_M_tweak_49 : decode b_M_tweak 49 = .ok (.ifCond .eq 17, 3) := by decide +kernel
theorem d_M_tweak_52 : decode b_M_tweak 52 = .ok (.iload_n 2, 1) := by decide +kernel
theorem d_M_tweak_53 : decode b_M_tweak 53 = .ok (.i2l, 1) := by decide +kernel
theorem d_M_tweak_54 : decode b_M_tweak 54 = .ok (.aload_n 0, 1) := by decide +kernel
theorem d_M_tweak_55 : decode b_M_tweak 55 = .ok (.getfield 7, 3) := by decide +kernel
theorem d_M_tweak_58 : decode b_M_tweak 58 = .ok (.iload_n 1, 1) := by decide +kernel
theorem d_M_tweak_59 : decode b_M_tweak 59 = .ok (.laload, 1) := by decide +kernel
theorem d_M_tweak_60 : decode b_M_tweak 60 = .ok (.invokestatic 103, 3) := by decide +kernel
theorem d_M_tweak_63 : decode b_M_tweak 63 = .ok (.goto 20, 3) := by decide +kernel
theorem d_M_tweak_66 : decode b_M_tweak 66 = .ok (.aload_n 0, 1) := by decide +kernel
theorem d_M_tweak_67 : decode b_M_tweak 67 = .ok (.getfield 7, 3) := by decide +kernel
theorem d_M_tweak_70 : decode b_M_tweak 70 = .ok (.iload_n 1, 1) := by decide +kernel
theorem d_M_tweak_71 : decode b_M_tweak 71 = .ok (.laload, 1) := by decide +kernel
theorem d_M_tweak_72 : decode b_M_tweak 72 = .ok (.iload_n 2, 1) := by decide +kernel
theorem d_M_tweak_73 : decode b_M_tweak 73 = .ok (.i2l, 1) := by decide +kernel
theorem d_M_tweak_74 : decode b_M_tweak 74 = .ok (.invokestatic 99, 3) := by decide +kernel
theorem d_M_tweak_77 : decode b_M_tweak 77 = .ok (.invokestatic 103, 3) := by decide +kernel
theorem d_M_tweak_80 : decode b_M_tweak 80 = .ok (.invokestatic 78, 3) := by decide +kernel
theorem d_M_tweak_83 : decode b_M_tweak 83 = .ok (.lstore 4, 2) := by decide +kernel
theorem d_M_tweak_85 : decode b_M_tweak 85 = .ok (.aload_n 0, 1) := by decide +kernel
theorem d_M_tweak_86 : decode b_M_tweak 86 = .ok (.lload 4, 2) := by decide +kernel
theorem d_M_tweak_88 : decode b_M_tweak 88 = .ok (.ldc2_w 35, 3) := by decide +kernel
theorem d_M_tweak_91 : decode b_M_tweak 91 = .ok (.lcmp, 1) := by decide +kernel
theorem d_M_tweak_92 : decode b_M_tweak 92 = .ok (.ifCond .ne 7, 3) := by decide +kernel
theorem d_M_tweak_95 : decode b_M_tweak 95 = .ok (.iconst 3, 1) := by decide +kernel
theorem d_M_tweak_96 : decode b_M_tweak 96 = .ok (.goto 4, 3) := by decide +kernel
theorem d_M_tweak_99 : decode b_M_tweak 99 = .ok (.iconst 0, 1) := by decide +kernel
theorem d_M_tweak_100 : decode b_M_tweak 100 = .ok (.putfield 37, 3) := by decide +kernel
theorem d_M_tweak_103 : decode b_M_tweak 103 = .ok (.aload_n 0, 1) := by decide +kernel
theorem d_M_tweak_104 : decode b_M_tweak 104 = .ok (.getfield 37, 3) := by decide +kernel
theorem d_M_tweak_107 : decode b_M_tweak 107 = .ok (.ifCond .eq 5, 3) := by decide +kernel
theorem d_M_tweak_110 : decode b_M_tweak 110 = .ok (.lconst 0, 1) := by decide +kernel
theorem d_M_tweak_111 : decode b_M_tweak 111 = .ok (.lreturn, 1) := by decide +kernel
theorem d_M_tweak_112 : decode b_M_tweak 112 = .ok (.aload_n 0, 1) := by decide +kernel
theorem d_M_tweak_113 : decode b_M_tweak 113 = .ok (.getfield 7, 3) := by decide +kernel
theorem d_M_tweak_116 : decode b_M_tweak 116 = .ok (.iload_n 1, 1) := by decide +kernel
theorem d_M_tweak_117 : decode b_M_tweak 117 = .ok (.lload 4, 2) := by decide +kernel
theorem d_M_tweak_119 : decode b_M_tweak 119 = .ok (.lastore, 1) := by decide +kernel
theorem d_M_tweak_120 : decode b_M_tweak 120 = .ok (.aload_n 0, 1) := by decide +kernel
theorem d_M_tweak_121 : decode b_M_tweak 121 = .ok (.getfield 13, 3) := by decide +kernel
theorem d_M_tweak_124 : decode b_M_tweak 124 = .ok (.iload_n 1, 1) := by decide +kernel
theorem d_M_tweak_125 : decode b_M_tweak 125 = .ok (.laload, 1) := by decide +kernel
theorem d_M_tweak_126 : decode b_M_tweak 126 = .ok (.lconst 0, 1) := by decide +kernel
theorem d_M_tweak_127 : decode b_M_tweak 127 = .ok (.lcmp, 1) := by decide +kernel
theorem d_M_tweak_128 : decode b_M_tweak 128 = .ok (.ifCond .le 42, 3) := by decide +kernel
theorem d_M_tweak_131 : decode b_M_tweak 131 = .ok (.aload_n 0, 1) := by decide +kernel
theorem d_M_tweak_132 : decode b_M_tweak 132 = .ok (.getfield 13, 3) := by decide +kernel
theorem d_M_tweak_135 : decode b_M_tweak 135 = .ok (.iload_n 1, 1) := by decide +kernel
theorem d_M_tweak_136 : decode b_M_tweak 136 = .ok (.iload_n 3, 1) := by decide +kernel
theorem d_M_tweak_137 : decode b_M_tweak 137 = .ok (.ifCond .eq 19, 3) := by decide +kernel
theorem d_M_tweak_140 : decode b_M_tweak 140 = .ok (.aload_n 0, 1) := by decide +kernel
theorem d_M_tweak_141 : decode b_M_tweak 141 = .ok (.getfield 13, 3) := by decide +kernel
theorem d_M_tweak_144 : decode b_M_tweak 144 = .ok (.iload_n 1, 1) := by decide +kernel
theorem d_M_tweak_145 : decode b_M_tweak 145 = .ok (.laload, 1) := by decide +kernel
theorem d_M_tweak_146 : decode b_M_tweak 146 = .ok (.iload_n 2, 1) := by decide +kernel
theorem d_M_tweak_147 : decode b_M_tweak 147 = .ok (.i2l, 1) := by decide +kernel
theorem d_M_tweak_148 : decode b_M_tweak 148 = .ok (.lmul, 1) := by decide +kernel
theorem d_M_tweak_149 : decode b_M_tweak 149 = .ok (.ldc2_w 93, 3) := by decide +kernel
theorem d_M_tweak_152 : decode b_M_tweak 152 = .ok (.lrem, 1) := by decide +kernel
theorem d_M_tweak_153 : decode b_M_tweak 153 = .ok (.goto 16, 3) := by decide +kernel
theorem d_M_tweak_156 : decode b_M_tweak 156 = .ok (.aload_n 0, 1) := by decide +kernel
theorem d_M_tweak_157 : decode b_M_tweak 157 = .ok (.getfield 13, 3) := by decide +kernel
theorem d_M_tweak_160 : decode b_M_tweak 160 = .ok (.iload_n 1, 1) := by decide +kernel
theorem d_M_tweak_161 : decode b_M_tweak 161 = .ok (.laload, 1) := by decide +kernel
theorem d_M_tweak_162 : decode b_M_tweak 162 = .ok (.iload_n 2, 1) := by decide +kernel
theorem d_M_tweak_163 : decode b_M_tweak 163 = .ok (.i2l, 1) := by decide +kernel
theorem d_M_tweak_164 : decode b_M_tweak 164 = .ok (.ladd, 1) := by decide +kernel
theorem d_M_tweak_165 : decode b_M_tweak 165 = .ok (.ldc2_w 93, 3) := by decide +kernel
theorem d_M_tweak_168 : decode b_M_tweak 168 = .ok (.lrem, 1) := by decide +kernel
theorem d_M_tweak_169 : decode b_M_tweak 169 = .ok (.lastore, 1) := by decide +kernel
theorem d_M_tweak_170 : decode b_M_tweak 170 = .ok (.lload 4, 2) := by decide +kernel
theorem d_M_tweak_172 : decode b_M_tweak 172 = .ok (.invokestatic 106, 3) := by decide +kernel
theorem d_M_tweak_175 : decode b_M_tweak 175 = .ok (.lreturn, 1) := by decide +kernel
theorem d_M_full_0 : decode b_M_full 0 = .ok (.aload_n 0, 1) := by decide +kernel
theorem d_M_full_1 : decode b_M_full 1 = .ok (.getfield 7, 3) := by decide +kernel
theorem d_M_full_4 : decode b_M_full 4 = .ok (.iload_n 1, 1) := by decide +kernel
theorem d_M_full_5 : decode b_M_full 5 = .ok (.laload, 1) := by decide +kernel
theorem d_M_full_6 : decode b_M_full 6 = .ok (.ldc2_w 35, 3) := by decide +kernel
theorem d_M_full_9 : decode b_M_full 9 = .ok (.lcmp, 1) := by decide +kernel
theorem d_M_full_10 : decode b_M_full 10 = .ok (.ifCond .eq 7, 3) := by decide +kernel
theorem d_M_full_13 : decode b_M_full 13 = .ok (.iconst 1, 1) := by decide +kernel
theorem d_M_full_14 : decode b_M_full 14 = .ok (.goto 4, 3) := by decide +kernel
theorem d_M_full_17 : decode b_M_full 17 = .ok (.iconst 0, 1) := by decide +kernel
theorem d_M_full_18 : decode b_M_full 18 = .ok (.ireturn, 1) := by decide +kernel
theorem d_M_combine_0 : decode b_M_combine 0 = .ok (.aload_n 0, 1) := by decide +kernel
theorem d_M_combine_1 : decode b_M_combine 1 = .ok (.iload_n 1, 1) := by decide +kernel
theorem d_M_combine_2 : decode b_M_combine 2 = .ok (.invokestatic 95, 3) := by decide +kernel
theorem d_M_combine_5 : decode b_M_combine 5 = .ok (.ifCond .eq 17, 3) := by decide +kernel
theorem d_M_combine_8 : decode b_M_combine 8 = .ok (.iload_n 2, 1) := by decide +kernel
theorem d_M_combine_9 : decode b_M_combine 9 = .ok (.invokestatic 95, 3) := by decide +kernel
theorem d_M_combine_12 : decode b_M_combine 12 = .ok (.ifCond .eq 10, 3) := by decide +kernel
theorem d_M_combine_15 : decode b_M_combine 15 = .ok (.iload_n 3, 1) := by decide +kernel
theorem d_M_combine_16 : decode b_M_combine 16 = .ok (.invokestatic 95, 3) := by decide +kernel
theorem d_M_combine_19 : decode b_M_combine 19 = .ok (.ifCond .ne 7, 3) := by decide +kernel
theorem d_M_combine_22 : decode b_M_combine 22 = .ok (.iconst 1, 1) := by decide +kernel
theorem d_M_combine_23 : decode b_M_combine 23 = .ok (.goto 50, 3) := by decide +kernel
theorem d_M_combine_26 : decode b_M_combine 26 = .ok (.aload_n 0, 1) := by decide +kernel
theorem d_M_combine_27 : decode b_M_combine 27 = .ok (.iload_n 2, 1) := by decide +kernel
theorem d_M_combine_28 : decode b_M_combine 28 = .ok (.invokevirtual 116, 3) := by decide +kernel
theorem d_M_combine_31 : decode b_M_combine 31 = .ok (.ifCond .eq 11, 3) := by decide +kernel
theorem d_M_combine_34 : decode b_M_combine 34 = .ok (.aload_n 0, 1) := by decide +kernel
theorem d_M_combine_35 : decode b_M_combine 35 = .ok (.iload_n 3, 1) := by decide +kernel
theorem d_M_combine_36 : decode b_M_combine 36 = .ok (.invokevirtual 116, 3) := by decide +kernel
theorem d_M_combine_39 : decode b_M_combine 39 = .ok (.ifCond .ne 7, 3) := by decide +kernel
theorem d_M_combine_42 : decode b_M_combine 42 = .ok (.iconst 2, 1) := by decide +kernel
theorem d_M_combine_43 : decode b_M_combine 43 = .ok (.goto 30, 3) := by decide +kernel
theorem d_M_combine_46 : decode b_M_combine 46 = .ok (.aload_n 0, 1) := by decide +kernel
theorem d_M_combine_47 : decode b_M_combine 47 = .ok (.getfield 7, 3) := by decide +kernel
theorem d_M_combine_50 : decode b_M_combine 50 = .ok (.iload_n 2, 1) := by decide +kernel
theorem d_M_combine_51 : decode b_M_combine 51 = .ok (.laload, 1) := by decide +kernel
theorem d_M_combine_52 : decode b_M_combine 52 = .ok (.aload_n 0, 1) := by decide +kernel
theorem d_M_combine_53 : decode b_M_combine 53 = .ok (.getfield 7, 3) := by decide +kernel
theorem d_M_combine_56 : decode b_M_combine 56 = .ok (.iload_n 3, 1) := by decide +kernel
theorem d_M_combine_57 : decode b_M_combine 57 = .ok (.laload, 1) := by decide +kernel
theorem d_M_combine_58 : decode b_M_combine 58 = .ok (.invokestatic 78, 3) := by decide +kernel
theorem d_M_combine_61 : decode b_M_combine 61 = .ok (.ldc2_w 35, 3) := by decide +kernel
theorem d_M_combine_64 : decode b_M_combine 64 = .ok (.lcmp, 1) := by decide +kernel
theorem d_M_combine_65 : decode b_M_combine 65 = .ok (.ifCond .ne 7, 3) := by decide +kernel
theorem d_M_combine_68 : decode b_M_combine 68 = .ok (.iconst 3, 1) := by decide +kernel
theorem d_M_combine_69 : decode b_M_combine 69 = .ok (.goto 4, 3) := by decide +kernel
theorem d_M_combine_72 : decode b_M_combine 72 = .ok (.iconst 0, 1) := by decide +kernel
theorem d_M_combine_73 : decode b_M_combine 73 = .ok (.putfield 37, 3) := by decide +kernel
theorem d_M_combine_76 : decode b_M_combine 76 = .ok (.aload_n 0, 1) := by decide +kernel
theorem d_M_combine_77 : decode b_M_combine 77 = .ok (.getfield 37, 3) := by decide +kernel
theorem d_M_combine_80 : decode b_M_combine 80 = .ok (.ifCond .eq 5, 3) := by decide +kernel
theorem d_M_combine_83 : decode b_M_combine 83 = .ok (.lconst 0, 1) := by decide +kernel
theorem d_M_combine_84 : decode b_M_combine 84 = .ok (.lreturn, 1) := by decide +kernel
theorem d_M_combine_85 : decode b_M_combine 85 = .ok (.aload_n 0, 1) := by decide +kernel
theorem d_M_combine_86 : decode b_M_combine 86 = .ok (.iload_n 1, 1) := by decide +kernel
theorem d_M_combine_87 : decode b_M_combine 87 = .ok (.aload_n 0, 1) := by decide +kernel
theorem d_M_combine_88 : decode b_M_combine 88 = .ok (.getfield 7, 3) := by decide +kernel
theorem d_M_combine_91 : decode b_M_combine 91 = .ok (.iload_n 2, 1) := by decide +kernel
theorem d_M_combine_92 : decode b_M_combine 92 = .ok (.laload, 1) := by decide +kernel
theorem d_M_combine_93 : decode b_M_combine 93 = .ok (.aload_n 0, 1) := by decide +kernel
theorem d_M_combine_94 : decode b_M_combine 94 = .ok (.getfield 7, 3) := by decide +kernel
theorem d_M_combine_97 : decode b_M_combine 97 = .ok (.iload_n 3, 1) := by decide +kernel
theorem d_M_combine_98 : decode b_M_combine 98 = .ok (.laload, 1) := by decide +kernel
theorem d_M_combine_99 : decode b_M_combine 99 = .ok (.invokestatic 78, 3) := by decide +kernel
theorem d_M_combine_102 : decode b_M_combine 102 = .ok (.invokevirtual 112, 3) := by decide +kernel
theorem d_M_combine_105 : decode b_M_combine 105 = .ok (.aload_n 0, 1) := by decide +kernel
theorem d_M_combine_106 : decode b_M_combine 106 = .ok (.getfield 7, 3) := by decide +kernel
theorem d_M_combine_109 : decode b_M_combine 109 = .ok (.iload_n 1, 1) := by decide +kernel
theorem d_M_combine_110 : decode b_M_combine 110 = .ok (.laload, 1) := by decide +kernel
theorem d_M_combine_111 : decode b_M_combine 111 = .ok (.invokestatic 106, 3) := by decide +kernel
theorem d_M_combine_114 : decode b_M_combine 114 = .ok (.lreturn, 1) := by decide +kernel
theorem d_M_linear_0 : decode b_M_linear 0 = .ok (.aload_n 0, 1) := by decide +kernel
theorem d_M_linear_1 : decode b_M_linear 1 = .ok (.iload_n 1, 1) := by decide +kernel
theorem d_M_linear_2 : decode b_M_linear 2 = .ok (.invokestatic 95, 3) := by decide +kernel
theorem d_M_linear_5 : decode b_M_linear 5 = .ok (.ifCond .ne 7, 3) := by decide +kernel
theorem d_M_linear_8 : decode b_M_linear 8 = .ok (.iconst 1, 1) := by decide +kernel
theorem d_M_linear_9 : decode b_M_linear 9 = .ok (.goto 34, 3) := by decide +kernel
theorem d_M_linear_12 : decode b_M_linear 12 = .ok (.aload_n 0, 1) := by decide +kernel
theorem d_M_linear_13 : decode b_M_linear 13 = .ok (.iload_n 1, 1) := by decide +kernel
theorem d_M_linear_14 : decode b_M_linear 14 = .ok (.invokevirtual 116, 3) := by decide +kernel
theorem d_M_linear_17 : decode b_M_linear 17 = .ok (.ifCond .ne 7, 3) := by decide +kernel
theorem d_M_linear_20 : decode b_M_linear 20 = .ok (.iconst 2, 1) := by decide +kernel
theorem d_M_linear_21 : decode b_M_linear 21 = .ok (.goto 22, 3) := by decide +kernel
theorem d_M_linear_24 : decode b_M_linear 24 = .ok (.iload_n 2, 1) := by decide +kernel
theorem d_M_linear_25 : decode b_M_linear 25 = .ok (.invokestatic 119, 3) := by decide +kernel
theorem d_M_linear_28 : decode b_M_linear 28 = .ok (.ifCond .eq 10, 3) := by decide +kernel
theorem d_M_linear_31 : decode b_M_linear 31 = .ok (.iload_n 3, 1) := by decide +kernel
theorem d_M_linear_32 : decode b_M_linear 32 = .ok (.invokestatic 119, 3) := by decide +kernel
theorem d_M_linear_35 : decode b_M_linear 35 = .ok (.ifCond .ne 7, 3) := by decide +kernel
theorem d_M_linear_38 : decode b_M_linear 38 = .ok (.iconst 3, 1) := by decide +kernel
theorem d_M_linear_39 : decode b_M_linear 39 = .ok (.goto 4, 3) := by decide +kernel
theorem d_M_linear_42 : decode b_M_linear 42 = .ok (.iconst 0, 1) := by decide +kernel
theorem d_M_linear_43 : decode b_M_linear 43 = .ok (.putfield 37, 3) := by decide +kernel
theorem d_M_linear_46 : decode b_M_linear 46 = .ok (.aload_n 0, 1) := by decide +kernel
theorem d_M_linear_47 : decode b_M_linear 47 = .ok (.getfield 37, 3) := by decide +kernel
theorem d_M_linear_50 : decode b_M_linear 50 = .ok (.ifCond .ne 31, 3) := by decide +kernel
theorem d_M_linear_53 : decode b_M_linear 53 = .ok (.iload_n 2, 1) := by decide +kernel
theorem d_M_linear_54 : decode b_M_linear 54 = .ok (.i2l, 1) := by decide +kernel
theorem d_M_linear_55 : decode b_M_linear 55 = .ok (.invokestatic 99, 3) := by decide +kernel
theorem d_M_linear_58 : decode b_M_linear 58 = .ok (.invokestatic 103, 3) := by decide +kernel
theorem d_M_linear_61 : decode b_M_linear 61 = .ok (.iload_n 3, 1) := by decide +kernel
theorem d_M_linear_62 : decode b_M_linear 62 = .ok (.i2l, 1) := by decide +kernel
theorem d_M_linear_63 : decode b_M_linear 63 = .ok (.aload_n 0, 1) := by decide +kernel
theorem d_M_linear_64 : decode b_M_linear 64 = .ok (.getfield 7, 3) := by decide +kernel
theorem d_M_linear_67 : decode b_M_linear 67 = .ok (.iload_n 1, 1) := by decide +kernel
theorem d_M_linear_68 : decode b_M_linear 68 = .ok (.laload, 1) := by decide +kernel
theorem d_M_linear_69 : decode b_M_linear 69 = .ok (.invokestatic 103, 3) := by decide +kernel
theorem d_M_linear_72 : decode b_M_linear 72 = .ok (.invokestatic 78, 3) := by decide +kernel
theorem d_M_linear_75 : decode b_M_linear 75 = .ok (.invokestatic 106, 3) := by decide +kernel
theorem d_M_linear_78 : decode b_M_linear 78 = .ok (.goto 4, 3) := by decide +kernel
theorem d_M_linear_81 : decode b_M_linear 81 = .ok (.lconst 0, 1) := by decide +kernel
theorem d_M_linear_82 : decode b_M_linear 82 = .ok (.lreturn, 1) := by decide +kernel
theorem d_M_sign_0 : decode b_M_sign 0 = .ok (.aload_n 0, 1) := by decide +kernel
theorem d_M_sign_1 : decode b_M_sign 1 = .ok (.aload_n 0, 1) := by decide +kernel
theorem d_M_sign_2 : decode b_M_sign 2 = .ok (.iload_n 1, 1) := by decide +kernel
theorem d_M_sign_3 : decode b_M_sign 3 = .ok (.invokevirtual 122, 3) := by decide +kernel
theorem d_M_sign_6 : decode b_M_sign 6 = .ok (.putfield 37, 3) := by decide +kernel
theorem d_M_sign_9 : decode b_M_sign 9 = .ok (.aload_n 0, 1) := by decide +kernel
theorem d_M_sign_10 : decode b_M_sign 10 = .ok (.getfield 37, 3) := by decide +kernel
theorem d_M_sign_13 : decode b_M_sign 13 = .ok (.ifCond .eq 5, 3) := by decide +kernel
theorem d_M_sign_16 : decode b_M_sign 16 = .ok (.lconst 0, 1) := by decide +kernel
theorem d_M_sign_17 : decode b_M_sign 17 = .ok (.lreturn, 1) := by decide +kernel
theorem d_M_sign_18 : decode b_M_sign 18 = .ok (.aload_n 0, 1) := by decide +kernel
theorem d_M_sign_19 : decode b_M_sign 19 = .ok (.getfield 13, 3) := by decide +kernel
theorem d_M_sign_22 : decode b_M_sign 22 = .ok (.iload_n 1, 1) := by decide +kernel
theorem d_M_sign_23 : decode b_M_sign 23 = .ok (.laload, 1) := by decide +kernel
theorem d_M_sign_24 : decode b_M_sign 24 = .ok (.lstore 4, 2) := by decide +kernel
theorem d_M_sign_26 : decode b_M_sign 26 = .ok (.lload_n 2, 1) := by decide +kernel
theorem d_M_sign_27 : decode b_M_sign 27 = .ok (.invokestatic 126, 3) := by decide +kernel
theorem d_M_sign_30 : decode b_M_sign 30 = .ok (.lstore 6, 2) := by decide +kernel
theorem d_M_sign_32 : decode b_M_sign 32 = .ok (.iconst 1, 1) := by decide +kernel
theorem d_M_sign_33 : decode b_M_sign 33 = .ok (.istore 8, 2) := by decide +kernel
theorem d_M_sign_35 : decode b_M_sign 35 = .ok (.iload 8, 2) := by decide +kernel
theorem d_M_sign_37 : decode b_M_sign 37 = .ok (.bipush 64, 2) := by decide +kernel
theorem d_M_sign_39 : decode b_M_sign 39 = .ok (.if_icmp .gt 177, 3) := by decide +kernel
theorem d_M_sign_42 : decode b_M_sign 42 = .ok (.lload 4, 2) := by decide +kernel
theorem d_M_sign_44 : decode b_M_sign 44 = .ok (.lload 6, 2) := by decide +kernel
theorem d_M_sign_46 : decode b_M_sign 46 = .ok (.invokestatic 59, 3) := by decide +kernel
theorem d_M_sign_49 : decode b_M_sign 49 = .ok (.iload 8, 2) := by decide +kernel
theorem d_M_sign_51 : decode b_M_sign 51 = .ok (.i2l, 1) := by decide +kernel
theorem d_M_sign_52 : decode b_M_sign 52 = .ok (.invokestatic 59, 3) := by decide +kernel
theorem d_M_sign_55 : decode b_M_sign 55 = .ok (.bipush 33, 2) := by decide +kernel
theorem d_M_sign_57 : decode b_M_sign 57 = .ok (.lushr, 1) := by decide +kernel
theorem d_M_sign_58 : decode b_M_sign 58 = .ok (.lstore 9, 2) := by decide +kernel
theorem d_M_sign_60 : decode b_M_sign 60 = .ok (.lload 9, 2) := by decide +kernel
theorem d_M_sign_62 : decode b_M_sign 62 = .ok (.lconst 1, 1) := by decide +kernel
theorem d_M_sign_63 : decode b_M_sign 63 = .ok (.lcmp, 1) := by decide +kernel
theorem d_M_sign_64 : decode b_M_sign 64 = .ok (.ifCond .lt 146, 3) := by decide +kernel
theorem d_M_sign_67 : decode b_M_sign 67 = .ok (.lload 9, 2) := by decide +kernel
theorem d_M_sign_69 : decode b_M_sign 69 = .ok (.ldc2_w 93, 3) := by decide +kernel
theorem d_M_sign_72 : decode b_M_sign 72 = .ok (.lcmp, 1) := by decide +kernel
theorem d_M_sign_73 : decode b_M_sign 73 = .ok (.ifCond .ge 137, 3) := by decide +kernel
theorem d_M_sign_76 : decode b_M_sign 76 = .ok (.lload 9, 2) := by decide +kernel
theorem d_M_sign_78 : decode b_M_sign 78 = .ok (.invokestatic 99, 3) := by decide +kernel
theorem d_M_sign_81 : decode b_M_sign 81 = .ok (.invokestatic 103, 3) := by decide +kernel
theorem d_M_sign_84 : decode b_M_sign 84 = .ok (.lstore 11, 2) := by decide +kernel
theorem d_M_sign_86 : decode b_M_sign 86 = .ok (.lload 11, 2) := by decide +kernel
theorem d_M_sign_88 : decode b_M_sign 88 = .ok (.invokestatic 64, 3) := by decide +kernel
theorem d_M_sign_91 : decode b_M_sign 91 = .ok (.ldc2_w 93, 3) := by decide +kernel
theorem d_M_sign_94 : decode b_M_sign 94 = .ok (.lrem, 1) := by decide +kernel
theorem d_M_sign_95 : decode b_M_sign 95 = .ok (.lstore 13, 2) := by decide +kernel
theorem d_M_sign_97 : decode b_M_sign 97 = .ok (.lload 6, 2) := by decide +kernel
theorem d_M_sign_99 : decode b_M_sign 99 = .ok (.lload 13, 2) := by decide +kernel
theorem d_M_sign_101 : decode b_M_sign 101 = .ok (.lload 4, 2) := by decide +kernel
theorem d_M_sign_103 : decode b_M_sign 103 = .ok (.lmul, 1) := by decide +kernel
theorem d_M_sign_104 : decode b_M_sign 104 = .ok (.ldc2_w 93, 3) := by decide +kernel
theorem d_M_sign_107 : decode b_M_sign 107 = .ok (.lrem, 1) := by decide +kernel
theorem d_M_sign_108 : decode b_M_sign 108 = .ok (.ladd, 1) := by decide +kernel
theorem d_M_sign_109 : decode b_M_sign 109 = .ok (.lload 9, 2) := by decide +kernel
theorem d_M_sign_111 : decode b_M_sign 111 = .ok (.ldc2_w 93, 3) := by decide +kernel
theorem d_M_sign_114 : decode b_M_sign 114 = .ok (.invokestatic 75, 3) := by decide +kernel
theorem d_M_sign_117 : decode b_M_sign 117 = .ok (.lstore 15, 2) := by decide +kernel
theorem d_M_sign_119 : decode b_M_sign 119 = .ok (.lload 13, 2) := by decide +kernel
theorem d_M_sign_121 : decode b_M_sign 121 = .ok (.lconst 0, 1) := by decide +kernel
theorem d_M_sign_122 : decode b_M_sign 122 = .ok (.lcmp, 1) := by decide +kernel
theorem d_M_sign_123 : decode b_M_sign 123 = .ok (.ifCond .eq 87, 3) := by decide +kernel
theorem d_M_sign_126 : decode b_M_sign 126 = .ok (.lload 15, 2) := by decide +kernel
theorem d_M_sign_128 : decode b_M_sign 128 = .ok (.lconst 0, 1) := by decide +kernel
theorem d_M_sign_129 : decode b_M_sign 129 = .ok (.lcmp, 1) := by decide +kernel
theorem d_M_sign_130 : decode b_M_sign 130 = .ok (.ifCond .eq 80, 3) := by decide +kernel
theorem d_M_sign_133 : decode b_M_sign 133 = .ok (.lload 15, 2) := by decide +kernel
theorem d_M_sign_135 : decode b_M_sign 135 = .ok (.ldc2_w 129, 3) := by decide +kernel
theorem d_M_sign_138 : decode b_M_sign 138 = .ok (.lcmp, 1) := by decide +kernel
theorem d_M_sign_139 : decode b_M_sign 139 = .ok (.ifCond .le 7, 3) := by decide +kernel
theorem d_M_sign_142 : decode b_M_sign 142 = .ok (.iconst 1, 1) := by decide +kernel
theorem d_M_sign_143 : decode b_M_sign 143 = .ok (.goto 4, 3) := by decide +kernel
theorem d_M_sign_146 : decode b_M_sign 146 = .ok (.iconst 0, 1) := by decide +kernel
theorem d_M_sign_147 : decode b_M_sign 147 = .ok (.istore 17, 2) := by decide +kernel
theorem d_M_sign_149 : decode b_M_sign 149 = .ok (.aload_n 0, 1) := by decide +kernel
theorem d_M_sign_150 : decode b_M_sign 150 = .ok (.lload 11, 2) := by decide +kernel
theorem d_M_sign_152 : decode b_M_sign 152 = .ok (.invokestatic 131, 3) := by decide +kernel
theorem d_M_sign_155 : decode b_M_sign 155 = .ok (.iload 17, 2) := by decide +kernel
theorem d_M_sign_157 : decode b_M_sign 157 = .ok (.if_icmp .eq 7, 3) := by decide +kernel
theorem d_M_sign_160 : decode b_M_sign 160 = .ok (.iconst 1, 1) := by decide +kernel
theorem d_M_sign_161 : decode b_M_sign 161 = .ok (.goto 4, 3) := by decide +kernel
theorem d_M_sign_164 : decode b_M_sign 164 = .ok (.iconst 0, 1) := by decide +kernel
theorem d_M_sign_165 : decode b_M_sign 165 = .ok (.lload 11, 2) := by decide +kernel
theorem d_M_sign_167 : decode b_M_sign 167 = .ok (.invokestatic 64, 3) := by decide +kernel
theorem d_M_sign_170 : decode b_M_sign 170 = .ok (.ldc2_w 93, 3) := by decide +kernel
theorem d_M_sign_173 : decode b_M_sign 173 = .ok (.lcmp, 1) := by decide +kernel
theorem d_M_sign_174 : decode b_M_sign 174 = .ok (.ifCond .lt 7, 3) := by decide +kernel
theorem d_M_sign_177 : decode b_M_sign 177 = .ok (.iconst 2, 1) := by decide +kernel
theorem d_M_sign_178 : decode b_M_sign 178 = .ok (.goto 4, 3) := by decide +kernel
theorem d_M_sign_181 : decode b_M_sign 181 = .ok (.iconst 0, 1) := by decide +kernel
theorem d_M_sign_182 : decode b_M_sign 182 = .ok (.iadd, 1) := by decide +kernel
theorem d_M_sign_183 : decode b_M_sign 183 = .ok (.putfield 135, 3) := by decide +kernel
theorem d_M_sign_186 : decode b_M_sign 186 = .ok (.lload 13, 2) := by decide +kernel
theorem d_M_sign_188 : decode b_M_sign 188 = .ok (.ldc2_w 87, 3) := by decide +kernel
theorem d_M_sign_191 : decode b_M_sign 191 = .ok (.lmul, 1) := by decide +kernel
theorem d_M_sign_192 : decode b_M_sign 192 = .ok (.iload 17, 2) := by decide +kernel
theorem d_M_sign_194 : decode b_M_sign 194 = .ok (.ifCond .eq 12, 3) := by decide +kernel
theorem d_M_sign_197 : decode b_M_sign 197 = .ok (.ldc2_w 93, 3) := by decide +kernel
theorem d_M_sign_200 : decode b_M_sign 200 = .ok (.lload 15, 2) := by decide +kernel
theorem d_M_sign_202 : decode b_M_sign 202 = .ok (.lsub, 1) := by decide +kernel
theorem d_M_sign_203 : decode b_M_sign 203 = .ok (.goto 5, 3) := by decide +kernel
theorem d_M_sign_206 : decode b_M_sign 206 = .ok (.lload 15, 2) := by decide +kernel
theorem d_M_sign_208 : decode b_M_sign 208 = .ok (.ladd, 1) := by decide +kernel
theorem d_M_sign_209 : decode b_M_sign 209 = .ok (.lreturn, 1) := by decide +kernel
theorem d_M_sign_210 : decode b_M_sign 210 = .ok (.iinc 8 1, 3) := by decide +kernel
theorem d_M_sign_213 : decode b_M_sign 213 = .ok (.goto (-178), 3) := by decide +kernel
theorem d_M_sign_216 : decode b_M_sign 216 = .ok (.aload_n 0, 1) := by decide +kernel
theorem d_M_sign_217 : decode b_M_sign 217 = .ok (.iconst 3, 1) := by decide +kernel
theorem d_M_sign_218 : decode b_M_sign 218 = .ok (.putfield 37, 3) := by decide +kernel
theorem d_M_sign_221 : decode b_M_sign 221 = .ok (.lconst 0, 1) := by decide +kernel
theorem d_M_sign_222 : decode b_M_sign 222 = .ok (.lreturn, 1) := by decide +kernel
theorem d_M_noSecret_0 : decode b_M_noSecret 0 = .ok (.iload_n 1, 1) := by decide +kernel
theorem d_M_noSecret_1 : decode b_M_noSecret 1 = .ok (.invokestatic 95, 3) := by decide +kernel
theorem d_M_noSecret_4 : decode b_M_noSecret 4 = .ok (.ifCond .ne 7, 3) := by decide +kernel
theorem d_M_noSecret_7 : decode b_M_noSecret 7 = .ok (.iconst 1, 1) := by decide +kernel
theorem d_M_noSecret_8 : decode b_M_noSecret 8 = .ok (.goto 19, 3) := by decide +kernel
theorem d_M_noSecret_11 : decode b_M_noSecret 11 = .ok (.aload_n 0, 1) := by decide +kernel
theorem d_M_noSecret_12 : decode b_M_noSecret 12 = .ok (.getfield 13, 3) := by decide +kernel
theorem d_M_noSecret_15 : decode b_M_noSecret 15 = .ok (.iload_n 1, 1) := by decide +kernel
theorem d_M_noSecret_16 : decode b_M_noSecret 16 = .ok (.laload, 1) := by decide +kernel
theorem d_M_noSecret_17 : decode b_M_noSecret 17 = .ok (.lconst 0, 1) := by decide +kernel
theorem d_M_noSecret_18 : decode b_M_noSecret 18 = .ok (.lcmp, 1) := by decide +kernel
theorem d_M_noSecret_19 : decode b_M_noSecret 19 = .ok (.ifCond .ne 7, 3) := by decide +kernel
theorem d_M_noSecret_22 : decode b_M_noSecret 22 = .ok (.iconst 2, 1) := by decide +kernel
theorem d_M_noSecret_23 : decode b_M_noSecret 23 = .ok (.goto 4, 3) := by decide +kernel
theorem d_M_noSecret_26 : decode b_M_noSecret 26 = .ok (.iconst 0, 1) := by decide +kernel
theorem d_M_noSecret_27 : decode b_M_noSecret 27 = .ok (.ireturn, 1) := by decide +kernel
theorem d_M_mark_0 : decode b_M_mark 0 = .ok (.aload_n 0, 1) := by decide +kernel
theorem d_M_mark_1 : decode b_M_mark 1 = .ok (.iconst 0, 1) := by decide +kernel
theorem d_M_mark_2 : decode b_M_mark 2 = .ok (.putfield 37, 3) := by decide +kernel
theorem d_M_mark_5 : decode b_M_mark 5 = .ok (.aload_n 0, 1) := by decide +kernel
theorem d_M_mark_6 : decode b_M_mark 6 = .ok (.getfield 135, 3) := by decide +kernel
theorem d_M_mark_9 : decode b_M_mark 9 = .ok (.ireturn, 1) := by decide +kernel
theorem d_M_good_0 : decode b_M_good 0 = .ok (.aload_n 0, 1) := by decide +kernel
theorem d_M_good_1 : decode b_M_good 1 = .ok (.aload_n 0, 1) := by decide +kernel
theorem d_M_good_2 : decode b_M_good 2 = .ok (.iload_n 1, 1) := by decide +kernel
theorem d_M_good_3 : decode b_M_good 3 = .ok (.invokevirtual 138, 3) := by decide +kernel
theorem d_M_good_6 : decode b_M_good 6 = .ok (.putfield 37, 3) := by decide +kernel
theorem d_M_good_9 : decode b_M_good 9 = .ok (.aload_n 0, 1) := by decide +kernel
theorem d_M_good_10 : decode b_M_good 10 = .ok (.getfield 37, 3) := by decide +kernel
theorem d_M_good_13 : decode b_M_good 13 = .ok (.ifCond .ne 35, 3) := by decide +kernel
theorem d_M_good_16 : decode b_M_good 16 = .ok (.iload 4, 2) := by decide +kernel
theorem d_M_good_18 : decode b_M_good 18 = .ok (.iconst 1, 1) := by decide +kernel
theorem d_M_good_19 : decode b_M_good 19 = .ok (.if_icmp .lt 29, 3) := by decide +kernel
theorem d_M_good_22 : decode b_M_good 22 = .ok (.iload 4, 2) := by decide +kernel
theorem d_M_good_24 : decode b_M_good 24 = .ok (.i2l, 1) := by decide +kernel
theorem d_M_good_25 : decode b_M_good 25 = .ok (.ldc2_w 93, 3) := by decide +kernel
theorem d_M_good_28 : decode b_M_good 28 = .ok (.lcmp, 1) := by decide +kernel
theorem d_M_good_29 : decode b_M_good 29 = .ok (.ifCond .ge 19, 3) := by decide +kernel
theorem d_M_good_32 : decode b_M_good 32 = .ok (.iload 5, 2) := by decide +kernel
theorem d_M_good_34 : decode b_M_good 34 = .ok (.iconst 1, 1) := by decide +kernel
theorem d_M_good_35 : decode b_M_good 35 = .ok (.if_icmp .lt 13, 3) := by decide +kernel
theorem d_M_good_38 : decode b_M_good 38 = .ok (.iload 5, 2) := by decide +kernel
theorem d_M_good_40 : decode b_M_good 40 = .ok (.i2l, 1) := by decide +kernel
theorem d_M_good_41 : decode b_M_good 41 = .ok (.ldc2_w 129, 3) := by decide +kernel
theorem d_M_good_44 : decode b_M_good 44 = .ok (.lcmp, 1) := by decide +kernel
theorem d_M_good_45 : decode b_M_good 45 = .ok (.ifCond .le 5, 3) := by decide +kernel
theorem d_M_good_48 : decode b_M_good 48 = .ok (.iconst 0, 1) := by decide +kernel
theorem d_M_good_49 : decode b_M_good 49 = .ok (.ireturn, 1) := by decide +kernel
theorem d_M_good_50 : decode b_M_good 50 = .ok (.lload_n 2, 1) := by decide +kernel
theorem d_M_good_51 : decode b_M_good 51 = .ok (.invokestatic 126, 3) := by decide +kernel
theorem d_M_good_54 : decode b_M_good 54 = .ok (.iload 5, 2) := by decide +kernel
theorem d_M_good_56 : decode b_M_good 56 = .ok (.i2l, 1) := by decide +kernel
theorem d_M_good_57 : decode b_M_good 57 = .ok (.ldc2_w 93, 3) := by decide +kernel
theorem d_M_good_60 : decode b_M_good 60 = .ok (.invokestatic 75, 3) := by decide +kernel
theorem d_M_good_63 : decode b_M_good 63 = .ok (.lstore 6, 2) := by decide +kernel
theorem d_M_good_65 : decode b_M_good 65 = .ok (.iload 4, 2) := by decide +kernel
theorem d_M_good_67 : decode b_M_good 67 = .ok (.i2l, 1) := by decide +kernel
theorem d_M_good_68 : decode b_M_good 68 = .ok (.iload 5, 2) := by decide +kernel
theorem d_M_good_70 : decode b_M_good 70 = .ok (.i2l, 1) := by decide +kernel
theorem d_M_good_71 : decode b_M_good 71 = .ok (.ldc2_w 93, 3) := by decide +kernel
theorem d_M_good_74 : decode b_M_good 74 = .ok (.invokestatic 75, 3) := by decide +kernel
theorem d_M_good_77 : decode b_M_good 77 = .ok (.lstore 8, 2) := by decide +kernel
theorem d_M_good_79 : decode b_M_good 79 = .ok (.lload 6, 2) := by decide +kernel
theorem d_M_good_81 : decode b_M_good 81 = .ok (.invokestatic 99, 3) := by decide +kernel
theorem d_M_good_84 : decode b_M_good 84 = .ok (.invokestatic 103, 3) := by decide +kernel
theorem d_M_good_87 : decode b_M_good 87 = .ok (.lload 8, 2) := by decide +kernel
theorem d_M_good_89 : decode b_M_good 89 = .ok (.aload_n 0, 1) := by decide +kernel
theorem d_M_good_90 : decode b_M_good 90 = .ok (.getfield 7, 3) := by decide +kernel
theorem d_M_good_93 : decode b_M_good 93 = .ok (.iload_n 1, 1) := by decide +kernel
theorem d_M_good_94 : decode b_M_good 94 = .ok (.laload, 1) := by decide +kernel
theorem d_M_good_95 : decode b_M_good 95 = .ok (.invokestatic 103, 3) := by decide +kernel
theorem d_M_good_98 : decode b_M_good 98 = .ok (.invokestatic 78, 3) := by decide +kernel
theorem d_M_good_101 : decode b_M_good 101 = .ok (.lstore 10, 2) := by decide +kernel
theorem d_M_good_103 : decode b_M_good 103 = .ok (.lload 10, 2) := by decide +kernel
theorem d_M_good_105 : decode b_M_good 105 = .ok (.ldc2_w 35, 3) := by decide +kernel
theorem d_M_good_108 : decode b_M_good 108 = .ok (.lcmp, 1) := by decide +kernel
theorem d_M_good_109 : decode b_M_good 109 = .ok (.ifCond .eq 23, 3) := by decide +kernel
theorem d_M_good_112 : decode b_M_good 112 = .ok (.lload 10, 2) := by decide +kernel
theorem d_M_good_114 : decode b_M_good 114 = .ok (.invokestatic 64, 3) := by decide +kernel
theorem d_M_good_117 : decode b_M_good 117 = .ok (.ldc2_w 93, 3) := by decide +kernel
theorem d_M_good_120 : decode b_M_good 120 = .ok (.lrem, 1) := by decide +kernel
theorem d_M_good_121 : decode b_M_good 121 = .ok (.iload 4, 2) := by decide +kernel
theorem d_M_good_123 : decode b_M_good 123 = .ok (.i2l, 1) := by decide +kernel
theorem d_M_good_124 : decode b_M_good 124 = .ok (.lcmp, 1) := by decide +kernel
theorem d_M_good_125 : decode b_M_good 125 = .ok (.ifCond .ne 7, 3) := by decide +kernel
theorem d_M_good_128 : decode b_M_good 128 = .ok (.iconst 1, 1) := by decide +kernel
theorem d_M_good_129 : decode b_M_good 129 = .ok (.goto 4, 3) := by decide +kernel
theorem d_M_good_132 : decode b_M_good 132 = .ok (.iconst 0, 1) := by decide +kernel
theorem d_M_good_133 : decode b_M_good 133 = .ok (.ireturn, 1) := by decide +kernel
theorem d_M_noPoint_0 : decode b_M_noPoint 0 = .ok (.iload_n 1, 1) := by decide +kernel
theorem d_M_noPoint_1 : decode b_M_noPoint 1 = .ok (.invokestatic 95, 3) := by decide +kernel
theorem d_M_noPoint_4 : decode b_M_noPoint 4 = .ok (.ifCond .ne 7, 3) := by decide +kernel
theorem d_M_noPoint_7 : decode b_M_noPoint 7 = .ok (.iconst 1, 1) := by decide +kernel
theorem d_M_noPoint_8 : decode b_M_noPoint 8 = .ok (.goto 16, 3) := by decide +kernel
theorem d_M_noPoint_11 : decode b_M_noPoint 11 = .ok (.aload_n 0, 1) := by decide +kernel
theorem d_M_noPoint_12 : decode b_M_noPoint 12 = .ok (.iload_n 1, 1) := by decide +kernel
theorem d_M_noPoint_13 : decode b_M_noPoint 13 = .ok (.invokevirtual 116, 3) := by decide +kernel
theorem d_M_noPoint_16 : decode b_M_noPoint 16 = .ok (.ifCond .ne 7, 3) := by decide +kernel
theorem d_M_noPoint_19 : decode b_M_noPoint 19 = .ok (.iconst 2, 1) := by decide +kernel
theorem d_M_noPoint_20 : decode b_M_noPoint 20 = .ok (.goto 4, 3) := by decide +kernel
theorem d_M_noPoint_23 : decode b_M_noPoint 23 = .ok (.iconst 0, 1) := by decide +kernel
theorem d_M_noPoint_24 : decode b_M_noPoint 24 = .ok (.ireturn, 1) := by decide +kernel
theorem d_M_recover_0 : decode b_M_recover 0 = .ok (.iload 4, 2) := by decide +kernel
theorem d_M_recover_2 : decode b_M_recover 2 = .ok (.iconst 1, 1) := by decide +kernel
theorem d_M_recover_3 : decode b_M_recover 3 = .ok (.if_icmp .lt 44, 3) := by decide +kernel
theorem d_M_recover_6 : decode b_M_recover 6 = .ok (.iload 4, 2) := by decide +kernel
theorem d_M_recover_8 : decode b_M_recover 8 = .ok (.i2l, 1) := by decide +kernel
theorem d_M_recover_9 : decode b_M_recover 9 = .ok (.ldc2_w 93, 3) := by decide +kernel
theorem d_M_recover_12 : decode b_M_recover 12 = .ok (.lcmp, 1) := by decide +kernel
theorem d_M_recover_13 : decode b_M_recover 13 = .ok (.ifCond .ge 34, 3) := by decide +kernel
theorem d_M_recover_16 : decode b_M_recover 16 = .ok (.iload 5, 2) := by decide +kernel
theorem d_M_recover_18 : decode b_M_recover 18 = .ok (.iconst 1, 1) := by decide +kernel
theorem d_M_recover_19 : decode b_M_recover 19 = .ok (.if_icmp .lt 28, 3) := by decide +kernel
theorem d_M_recover_22 : decode b_M_recover 22 = .ok (.iload 5, 2) := by decide +kernel
theorem d_M_recover_24 : decode b_M_recover 24 = .ok (.i2l, 1) := by decide +kernel
theorem d_M_recover_25 : decode b_M_recover 25 = .ok (.ldc2_w 93, 3) := by decide +kernel
theorem d_M_recover_28 : decode b_M_recover 28 = .ok (.lcmp, 1) := by decide +kernel
theorem d_M_recover_29 : decode b_M_recover 29 = .ok (.ifCond .ge 18, 3) := by decide +kernel
theorem d_M_recover_32 : decode b_M_recover 32 = .ok (.iload 6, 2) := by decide +kernel
theorem d_M_recover_34 : decode b_M_recover 34 = .ok (.ifCond .lt 13, 3) := by decide +kernel
theorem d_M_recover_37 : decode b_M_recover 37 = .ok (.iload 6, 2) := by decide +kernel
theorem d_M_recover_39 : decode b_M_recover 39 = .ok (.iconst 3, 1) := by decide +kernel
theorem d_M_recover_40 : decode b_M_recover 40 = .ok (.if_icmp .gt 7, 3) := by decide +kernel
theorem d_M_recover_43 : decode b_M_recover 43 = .ok (.iconst 1, 1) := by decide +kernel
theorem d_M_recover_44 : decode b_M_recover 44 = .ok (.goto 4, 3) := by decide +kernel
theorem d_M_recover_47 : decode b_M_recover 47 = .ok (.iconst 0, 1) := by decide +kernel
theorem d_M_recover_48 : decode b_M_recover 48 = .ok (.istore 7, 2) := by decide +kernel
theorem d_M_recover_50 : decode b_M_recover 50 = .ok (.aload_n 0, 1) := by decide +kernel
theorem d_M_recover_51 : decode b_M_recover 51 = .ok (.iload_n 1, 1) := by decide +kernel
theorem d_M_recover_52 : decode b_M_recover 52 = .ok (.invokestatic 95, 3) := by decide +kernel
theorem d_M_recover_55 : decode b_M_recover 55 = .ok (.ifCond .ne 7, 3) := by decide +kernel
theorem d_M_recover_58 : decode b_M_recover 58 = .ok (.iconst 1, 1) := by decide +kernel
theorem d_M_recover_59 : decode b_M_recover 59 = .ok (.goto 13, 3) := by decide +kernel
theorem d_M_recover_62 : decode b_M_recover 62 = .ok (.iload 7, 2) := by decide +kernel
theorem d_M_recover_64 : decode b_M_recover 64 = .ok (.ifCond .ne 7, 3) := by decide +kernel
theorem d_M_recover_67 : decode b_M_recover 67 = .ok (.iconst 2, 1) := by decide +kernel
theorem d_M_recover_68 : decode b_M_recover 68 = .ok (.goto 4, 3) := by decide +kernel
theorem d_M_recover_71 : decode b_M_recover 71 = .ok (.iconst 0, 1) := by decide +kernel
theorem d_M_recover_72 : decode b_M_recover 72 = .ok (.putfield 37, 3) := by decide +kernel
theorem d_M_recover_75 : decode b_M_recover 75 = .ok (.aload_n 0, 1) := by decide +kernel
theorem d_M_recover_76 : decode b_M_recover 76 = .ok (.getfield 37, 3) := by decide +kernel
theorem d_M_recover_79 : decode b_M_recover 79 = .ok (.ifCond .eq 5, 3) := by decide +kernel
theorem d_M_recover_82 : decode b_M_recover 82 = .ok (.lconst 0, 1) := by decide +kernel
theorem d_M_recover_83 : decode b_M_recover 83 = .ok (.lreturn, 1) := by decide +kernel
theorem d_M_recover_84 : decode b_M_recover 84 = .ok (.iload 6, 2) := by decide +kernel
theorem d_M_recover_86 : decode b_M_recover 86 = .ok (.iconst 1, 1) := by decide +kernel
theorem d_M_recover_87 : decode b_M_recover 87 = .ok (.if_icmp .le 13, 3) := by decide +kernel
theorem d_M_recover_90 : decode b_M_recover 90 = .ok (.iload 4, 2) := by decide +kernel
theorem d_M_recover_92 : decode b_M_recover 92 = .ok (.i2l, 1) := by decide +kernel
theorem d_M_recover_93 : decode b_M_recover 93 = .ok (.ldc2_w 93, 3) := by decide +kernel
theorem d_M_recover_96 : decode b_M_recover 96 = .ok (.ladd, 1) := by decide +kernel
theorem d_M_recover_97 : decode b_M_recover 97 = .ok (.goto 6, 3) := by decide +kernel
theorem d_M_recover_100 : decode b_M_recover 100 = .ok (.iload 4, 2) := by decide +kernel
theorem d_M_recover_102 : decode b_M_recover 102 = .ok (.i2l, 1) := by decide +kernel
theorem d_M_recover_103 : decode b_M_recover 103 = .ok (.iload 6, 2) := by decide +kernel
theorem d_M_recover_105 : decode b_M_recover 105 = .ok (.iconst 2, 1) := by decide +kernel
theorem d_M_recover_106 : decode b_M_recover 106 = .ok (.irem, 1) := by decide +kernel
theorem d_M_recover_107 : decode b_M_recover 107 = .ok (.iconst 1, 1) := by decide +kernel
theorem d_M_recover_108 : decode b_M_recover 108 = .ok (.if_icmp .ne 7, 3) := by decide +kernel
theorem d_M_recover_111 : decode b_M_recover 111 = .ok (.iconst 1, 1) := by decide +kernel
theorem d_M_recover_112 : decode b_M_recover 112 = .ok (.goto 4, 3) := by decide +kernel
theorem d_M_recover_115 : decode b_M_recover 115 = .ok (.iconst 0, 1) := by decide +kernel
theorem d_M_recover_116 : decode b_M_recover 116 = .ok (.invokestatic 89, 3) := by decide +kernel
theorem d_M_recover_119 : decode b_M_recover 119 = .ok (.lstore 8, 2) := by decide +kernel
theorem d_M_recover_121 : decode b_M_recover 121 = .ok (.iload 5, 2) := by decide +kernel
theorem d_M_recover_123 : decode b_M_recover 123 = .ok (.i2l, 1) := by decide +kernel
theorem d_M_recover_124 : decode b_M_recover 124 = .ok (.iload 4, 2) := by decide +kernel
theorem d_M_recover_126 : decode b_M_recover 126 = .ok (.i2l, 1) := by decide +kernel
theorem d_M_recover_127 : decode b_M_recover 127 = .ok (.ldc2_w 93, 3) := by decide +kernel
theorem d_M_recover_130 : decode b_M_recover 130 = .ok (.invokestatic 75, 3) := by decide +kernel
theorem d_M_recover_133 : decode b_M_recover 133 = .ok (.lstore 10, 2) := by decide +kernel
theorem d_M_recover_135 : decode b_M_recover 135 = .ok (.ldc2_w 93, 3) := by decide +kernel
theorem d_M_recover_138 : decode b_M_recover 138 = .ok (.lload_n 2, 1) := by decide +kernel
theorem d_M_recover_139 : decode b_M_recover 139 = .ok (.invokestatic 126, 3) := by decide +kernel
theorem d_M_recover_142 : decode b_M_recover 142 = .ok (.ldc2_w 93, 3) := by decide +kernel
theorem d_M_recover_145 : decode b_M_recover 145 = .ok (.lrem, 1) := by decide +kernel
theorem d_M_recover_146 : decode b_M_recover 146 = .ok (.lsub, 1) := by decide +kernel
theorem d_M_recover_147 : decode b_M_recover 147 = .ok (.iload 4, 2) := by decide +kernel
theorem d_M_recover_149 : decode b_M_recover 149 = .ok (.i2l, 1) := by decide +kernel
theorem d_M_recover_150 : decode b_M_recover 150 = .ok (.ldc2_w 93, 3) := by decide +kernel
theorem d_M_recover_153 : decode b_M_recover 153 = .ok (.invokestatic 75, 3) := by decide +kernel
theorem d_M_recover_156 : decode b_M_recover 156 = .ok (.lstore 12, 2) := by decide +kernel
theorem d_M_recover_158 : decode b_M_recover 158 = .ok (.lload 8, 2) := by decide +kernel
theorem d_M_recover_160 : decode b_M_recover 160 = .ok (.ldc2_w 35, 3) := by decide +kernel
theorem d_M_recover_163 : decode b_M_recover 163 = .ok (.lcmp, 1) := by decide +kernel
theorem d_M_recover_164 : decode b_M_recover 164 = .ok (.ifCond .ne 9, 3) := by decide +kernel
theorem d_M_recover_167 : decode b_M_recover 167 = .ok (.ldc2_w 35, 3) := by decide +kernel
theorem d_M_recover_170 : decode b_M_recover 170 = .ok (.goto 21, 3) := by decide +kernel
theorem d_M_recover_173 : decode b_M_recover 173 = .ok (.lload 10, 2) := by decide +kernel
theorem d_M_recover_175 : decode b_M_recover 175 = .ok (.lload 8, 2) := by decide +kernel
theorem d_M_recover_177 : decode b_M_recover 177 = .ok (.invokestatic 103, 3) := by decide +kernel
theorem d_M_recover_180 : decode b_M_recover 180 = .ok (.lload 12, 2) := by decide +kernel
theorem d_M_recover_182 : decode b_M_recover 182 = .ok (.invokestatic 99, 3) := by decide +kernel
theorem d_M_recover_185 : decode b_M_recover 185 = .ok (.invokestatic 103, 3) := by decide +kernel
theorem d_M_recover_188 : decode b_M_recover 188 = .ok (.invokestatic 78, 3) := by decide +kernel
theorem d_M_recover_191 : decode b_M_recover 191 = .ok (.lstore 14, 2) := by decide +kernel
theorem d_M_recover_193 : decode b_M_recover 193 = .ok (.aload_n 0, 1) := by decide +kernel
theorem d_M_recover_194 : decode b_M_recover 194 = .ok (.lload 14, 2) := by decide +kernel
theorem d_M_recover_196 : decode b_M_recover 196 = .ok (.ldc2_w 35, 3) := by decide +kernel
theorem d_M_recover_199 : decode b_M_recover 199 = .ok (.lcmp, 1) := by decide +kernel
theorem d_M_recover_200 : decode b_M_recover 200 = .ok (.ifCond .ne 7, 3) := by decide +kernel
theorem d_M_recover_203 : decode b_M_recover 203 = .ok (.iconst 2, 1) := by decide +kernel
theorem d_M_recover_204 : decode b_M_recover 204 = .ok (.goto 4, 3) := by decide +kernel
theorem d_M_recover_207 : decode b_M_recover 207 = .ok (.iconst 0, 1) := by decide +kernel
theorem d_M_recover_208 : decode b_M_recover 208 = .ok (.putfield 37, 3) := by decide +kernel
theorem d_M_recover_211 : decode b_M_recover 211 = .ok (.aload_n 0, 1) := by decide +kernel
theorem d_M_recover_212 : decode b_M_recover 212 = .ok (.getfield 37, 3) := by decide +kernel
theorem d_M_recover_215 : decode b_M_recover 215 = .ok (.ifCond .eq 5, 3) := by decide +kernel
theorem d_M_recover_218 : decode b_M_recover 218 = .ok (.lconst 0, 1) := by decide +kernel
theorem d_M_recover_219 : decode b_M_recover 219 = .ok (.lreturn, 1) := by decide +kernel
theorem d_M_recover_220 : decode b_M_recover 220 = .ok (.aload_n 0, 1) := by decide +kernel
theorem d_M_recover_221 : decode b_M_recover 221 = .ok (.iload_n 1, 1) := by decide +kernel
theorem d_M_recover_222 : decode b_M_recover 222 = .ok (.lload 14, 2) := by decide +kernel
theorem d_M_recover_224 : decode b_M_recover 224 = .ok (.invokevirtual 112, 3) := by decide +kernel
theorem d_M_recover_227 : decode b_M_recover 227 = .ok (.lload 14, 2) := by decide +kernel
theorem d_M_recover_229 : decode b_M_recover 229 = .ok (.invokestatic 106, 3) := by decide +kernel
theorem d_M_recover_232 : decode b_M_recover 232 = .ok (.lreturn, 1) := by decide +kernel
theorem d_M_prove_0 : decode b_M_prove 0 = .ok (.aload_n 0, 1) := by decide +kernel
theorem d_M_prove_1 : decode b_M_prove 1 = .ok (.aload_n 0, 1) := by decide +kernel
theorem d_M_prove_2 : decode b_M_prove 2 = .ok (.iload_n 1, 1) := by decide +kernel
theorem d_M_prove_3 : decode b_M_prove 3 = .ok (.invokevirtual 122, 3) := by decide +kernel
theorem d_M_prove_6 : decode b_M_prove 6 = .ok (.putfield 37, 3) := by decide +kernel
theorem d_M_prove_9 : decode b_M_prove 9 = .ok (.aload_n 0, 1) := by decide +kernel
theorem d_M_prove_10 : decode b_M_prove 10 = .ok (.getfield 37, 3) := by decide +kernel
theorem d_M_prove_13 : decode b_M_prove 13 = .ok (.ifCond .eq 5, 3) := by decide +kernel
theorem d_M_prove_16 : decode b_M_prove 16 = .ok (.lconst 0, 1) := by decide +kernel
theorem d_M_prove_17 : decode b_M_prove 17 = .ok (.lreturn, 1) := by decide +kernel
theorem d_M_prove_18 : decode b_M_prove 18 = .ok (.aload_n 0, 1) := by decide +kernel
theorem d_M_prove_19 : decode b_M_prove 19 = .ok (.getfield 7, 3) := by decide +kernel
theorem d_M_prove_22 : decode b_M_prove 22 = .ok (.iload_n 1, 1) := by decide +kernel
theorem d_M_prove_23 : decode b_M_prove 23 = .ok (.laload, 1) := by decide +kernel
theorem d_M_prove_24 : decode b_M_prove 24 = .ok (.invokestatic 64, 3) := by decide +kernel
theorem d_M_prove_27 : decode b_M_prove 27 = .ok (.lstore 6, 2) := by decide +kernel
theorem d_M_prove_29 : decode b_M_prove 29 = .ok (.aload_n 0, 1) := by decide +kernel
theorem d_M_prove_30 : decode b_M_prove 30 = .ok (.getfield 7, 3) := by decide +kernel
theorem d_M_prove_33 : decode b_M_prove 33 = .ok (.iload_n 1, 1) := by decide +kernel
theorem d_M_prove_34 : decode b_M_prove 34 = .ok (.laload, 1) := by decide +kernel
theorem d_M_prove_35 : decode b_M_prove 35 = .ok (.invokestatic 131, 3) := by decide +kernel
theorem d_M_prove_38 : decode b_M_prove 38 = .ok (.ifCond .eq 16, 3) := by decide +kernel
theorem d_M_prove_41 : decode b_M_prove 41 = .ok (.ldc2_w 93, 3) := by decide +kernel
theorem d_M_prove_44 : decode b_M_prove 44 = .ok (.aload_n 0, 1) := by decide +kernel
theorem d_M_prove_45 : decode b_M_prove 45 = .ok (.getfield 13, 3) := by decide +kernel
theorem d_M_prove_48 : decode b_M_prove 48 = .ok (.iload_n 1, 1) := by decide +kernel
theorem d_M_prove_49 : decode b_M_prove 49 = .ok (.laload, 1) := by decide +kernel
theorem d_M_prove_50 : decode b_M_prove 50 = .ok (.lsub, 1) := by decide +kernel
theorem d_M_prove_51 : decode b_M_prove 51 = .ok (.goto 9, 3) := by decide +kernel
theorem d_M_prove_54 : decode b_M_prove 54 = .ok (.aload_n 0, 1) := by decide +kernel
theorem d_M_prove_55 : decode b_M_prove 55 = .ok (.getfield 13, 3) := by decide +kernel
theorem d_M_prove_58 : decode b_M_prove 58 = .ok (.iload_n 1, 1) := by decide +kernel
theorem d_M_prove_59 : decode b_M_prove 59 = .ok (.laload, 1) := by decide +kernel
theorem d_M_prove_60 : decode b_M_prove 60 = .ok (.lstore 8, 2) := by decide +kernel
theorem d_M_prove_62 : decode b_M_prove 62 = .ok (.lload 8, 2) := by decide +kernel
theorem d_M_prove_64 : decode b_M_prove 64 = .ok (.lload 4, 2) := by decide +kernel
theorem d_M_prove_66 : decode b_M_prove 66 = .ok (.ldc2_w 143, 3) := by decide +kernel
theorem d_M_prove_69 : decode b_M_prove 69 = .ok (.invokestatic 59, 3) := by decide +kernel
theorem d_M_prove_72 : decode b_M_prove 72 = .ok (.bipush 34, 2) := by decide +kernel
theorem d_M_prove_74 : decode b_M_prove 74 = .ok (.lushr, 1) := by decide +kernel
theorem d_M_prove_75 : decode b_M_prove 75 = .ok (.lxor, 1) := by decide +kernel
theorem d_M_prove_76 : decode b_M_prove 76 = .ok (.lload 6, 2) := by decide +kernel
theorem d_M_prove_78 : decode b_M_prove 78 = .ok (.invokestatic 59, 3) := by decide +kernel
theorem d_M_prove_81 : decode b_M_prove 81 = .ok (.lload_n 2, 1) := by decide +kernel
theorem d_M_prove_82 : decode b_M_prove 82 = .ok (.invokestatic 59, 3) := by decide +kernel
theorem d_M_prove_85 : decode b_M_prove 85 = .ok (.bipush 33, 2) := by decide +kernel
theorem d_M_prove_87 : decode b_M_prove 87 = .ok (.lushr, 1) := by decide +kernel
theorem d_M_prove_88 : decode b_M_prove 88 = .ok (.ldc2_w 93, 3) := by decide +kernel
theorem d_M_prove_91 : decode b_M_prove 91 = .ok (.lrem, 1) := by decide +kernel
theorem d_M_prove_92 : decode b_M_prove 92 = .ok (.lstore 10, 2) := by decide +kernel
theorem d_M_prove_94 : decode b_M_prove 94 = .ok (.aload_n 0, 1) := by decide +kernel
theorem d_M_prove_95 : decode b_M_prove 95 = .ok (.lload 10, 2) := by decide +kernel
theorem d_M_prove_97 : decode b_M_prove 97 = .ok (.lconst 0, 1) := by decide +kernel
theorem d_M_prove_98 : decode b_M_prove 98 = .ok (.lcmp, 1) := by decide +kernel
theorem d_M_prove_99 : decode b_M_prove 99 = .ok (.ifCond .ne 7, 3) := by decide +kernel
theorem d_M_prove_102 : decode b_M_prove 102 = .ok (.iconst 3, 1) := by decide +kernel
theorem d_M_prove_103 : decode b_M_prove 103 = .ok (.goto 4, 3) := by decide +kernel
theorem d_M_prove_106 : decode b_M_prove 106 = .ok (.iconst 0, 1) := by decide +kernel
theorem d_M_prove_107 : decode b_M_prove 107 = .ok (.putfield 37, 3) := by decide +kernel
theorem d_M_prove_110 : decode b_M_prove 110 = .ok (.aload_n 0, 1) := by decide +kernel
theorem d_M_prove_111 : decode b_M_prove 111 = .ok (.getfield 37, 3) := by decide +kernel
theorem d_M_prove_114 : decode b_M_prove 114 = .ok (.ifCond .eq 5, 3) := by decide +kernel
theorem d_M_prove_117 : decode b_M_prove 117 = .ok (.lconst 0, 1) := by decide +kernel
theorem d_M_prove_118 : decode b_M_prove 118 = .ok (.lreturn, 1) := by decide +kernel
theorem d_M_prove_119 : decode b_M_prove 119 = .ok (.lload 10, 2) := by decide +kernel
theorem d_M_prove_121 : decode b_M_prove 121 = .ok (.invokestatic 99, 3) := by decide +kernel
theorem d_M_prove_124 : decode b_M_prove 124 = .ok (.invokestatic 103, 3) := by decide +kernel
theorem d_M_prove_127 : decode b_M_prove 127 = .ok (.lstore 12, 2) := by decide +kernel
theorem d_M_prove_129 : decode b_M_prove 129 = .ok (.lload 12, 2) := by decide +kernel
theorem d_M_prove_131 : decode b_M_prove 131 = .ok (.invokestatic 131, 3) := by decide +kernel
theorem d_M_prove_134 : decode b_M_prove 134 = .ok (.ifCond .eq 12, 3) := by decide +kernel
theorem d_M_prove_137 : decode b_M_prove 137 = .ok (.ldc2_w 93, 3) := by decide +kernel
theorem d_M_prove_140 : decode b_M_prove 140 = .ok (.lload 10, 2) := by decide +kernel
theorem d_M_prove_142 : decode b_M_prove 142 = .ok (.lsub, 1) := by decide +kernel
theorem d_M_prove_143 : decode b_M_prove 143 = .ok (.goto 5, 3) := by decide +kernel
theorem d_M_prove_146 : decode b_M_prove 146 = .ok (.lload 10, 2) := by decide +kernel
theorem d_M_prove_148 : decode b_M_prove 148 = .ok (.lstore 10, 2) := by decide +kernel
theorem d_M_prove_150 : decode b_M_prove 150 = .ok (.lload 12, 2) := by decide +kernel
theorem d_M_prove_152 : decode b_M_prove 152 = .ok (.invokestatic 64, 3) := by decide +kernel
theorem d_M_prove_155 : decode b_M_prove 155 = .ok (.lload 6, 2) := by decide +kernel
theorem d_M_prove_157 : decode b_M_prove 157 = .ok (.lload_n 2, 1) := by decide +kernel
theorem d_M_prove_158 : decode b_M_prove 158 = .ok (.invokestatic 145, 3) := by decide +kernel
theorem d_M_prove_161 : decode b_M_prove 161 = .ok (.lstore 14, 2) := by decide +kernel
theorem d_M_prove_163 : decode b_M_prove 163 = .ok (.lload 12, 2) := by decide +kernel
theorem d_M_prove_165 : decode b_M_prove 165 = .ok (.invokestatic 64, 3) := by decide +kernel
theorem d_M_prove_168 : decode b_M_prove 168 = .ok (.ldc2_w 87, 3) := by decide +kernel
theorem d_M_prove_171 : decode b_M_prove 171 = .ok (.lmul, 1) := by decide +kernel
theorem d_M_prove_172 : decode b_M_prove 172 = .ok (.lload 10, 2) := by decide +kernel
theorem d_M_prove_174 : decode b_M_prove 174 = .ok (.lload 14, 2) := by decide +kernel
theorem d_M_prove_176 : decode b_M_prove 176 = .ok (.lload 8, 2) := by decide +kernel
theorem d_M_prove_178 : decode b_M_prove 178 = .ok (.lmul, 1) := by decide +kernel
theorem d_M_prove_179 : decode b_M_prove 179 = .ok (.ladd, 1) := by decide +kernel
theorem d_M_prove_180 : decode b_M_prove 180 = .ok (.ldc2_w 93, 3) := by decide +kernel
theorem d_M_prove_183 : decode b_M_prove 183 = .ok (.lrem, 1) := by decide +kernel
theorem d_M_prove_184 : decode b_M_prove 184 = .ok (.ladd, 1) := by decide +kernel
theorem d_M_prove_185 : decode b_M_prove 185 = .ok (.lreturn, 1) := by decide +kernel
theorem d_M_holds_0 : decode b_M_holds 0 = .ok (.aload_n 0, 1) := by decide +kernel
theorem d_M_holds_1 : decode b_M_holds 1 = .ok (.aload_n 0, 1) := by decide +kernel
theorem d_M_holds_2 : decode b_M_holds 2 = .ok (.iload_n 1, 1) := by decide +kernel
theorem d_M_holds_3 : decode b_M_holds 3 = .ok (.invokevirtual 138, 3) := by decide +kernel
theorem d_M_holds_6 : decode b_M_holds 6 = .ok (.putfield 37, 3) := by decide +kernel
theorem d_M_holds_9 : decode b_M_holds 9 = .ok (.aload_n 0, 1) := by decide +kernel
theorem d_M_holds_10 : decode b_M_holds 10 = .ok (.getfield 37, 3) := by decide +kernel
theorem d_M_holds_13 : decode b_M_holds 13 = .ok (.ifCond .ne 26, 3) := by decide +kernel
theorem d_M_holds_16 : decode b_M_holds 16 = .ok (.iload 4, 2) := by decide +kernel
theorem d_M_holds_18 : decode b_M_holds 18 = .ok (.ifCond .lt 21, 3) := by decide +kernel
theorem d_M_holds_21 : decode b_M_holds 21 = .ok (.iload 4, 2) := by decide +kernel
theorem d_M_holds_23 : decode b_M_holds 23 = .ok (.i2l, 1) := by decide +kernel
theorem d_M_holds_24 : decode b_M_holds 24 = .ok (.ldc2_w 73, 3) := by decide +kernel
theorem d_M_holds_27 : decode b_M_holds 27 = .ok (.lcmp, 1) := by decide +kernel
theorem d_M_holds_28 : decode b_M_holds 28 = .ok (.ifCond .ge 11, 3) := by decide +kernel
theorem d_M_holds_31 : decode b_M_holds 31 = .ok (.iload 5, 2) := by decide +kernel
theorem d_M_holds_33 : decode b_M_holds 33 = .ok (.invokestatic 119, 3) := by decide +kernel
theorem d_M_holds_36 : decode b_M_holds 36 = .ok (.ifCond .ne 5, 3) := by decide +kernel
theorem d_M_holds_39 : decode b_M_holds 39 = .ok (.iconst 0, 1) := by decide +kernel
theorem d_M_holds_40 : decode b_M_holds 40 = .ok (.ireturn, 1) := by decide +kernel
theorem d_M_holds_41 : decode b_M_holds 41 = .ok (.aload_n 0, 1) := by decide +kernel
theorem d_M_holds_42 : decode b_M_holds 42 = .ok (.getfield 7, 3) := by decide +kernel
theorem d_M_holds_45 : decode b_M_holds 45 = .ok (.iload_n 1, 1) := by decide +kernel
theorem d_M_holds_46 : decode b_M_holds 46 = .ok (.laload, 1) := by decide +kernel
theorem d_M_holds_47 : decode b_M_holds 47 = .ok (.invokestatic 64, 3) := by decide +kernel
theorem d_M_holds_50 : decode b_M_holds 50 = .ok (.lstore 6, 2) := by decide +kernel
theorem d_M_holds_52 : decode b_M_holds 52 = .ok (.iload 4, 2) := by decide +kernel
theorem d_M_holds_54 : decode b_M_holds 54 = .ok (.i2l, 1) := by decide +kernel
theorem d_M_holds_55 : decode b_M_holds 55 = .ok (.lload 6, 2) := by decide +kernel
theorem d_M_holds_57 : decode b_M_holds 57 = .ok (.lload_n 2, 1) := by decide +kernel
theorem d_M_holds_58 : decode b_M_holds 58 = .ok (.invokestatic 145, 3) := by decide +kernel
theorem d_M_holds_61 : decode b_M_holds 61 = .ok (.lstore 8, 2) := by decide +kernel
theorem d_M_holds_63 : decode b_M_holds 63 = .ok (.iload 5, 2) := by decide +kernel
theorem d_M_holds_65 : decode b_M_holds 65 = .ok (.i2l, 1) := by decide +kernel
theorem d_M_holds_66 : decode b_M_holds 66 = .ok (.invokestatic 99, 3) := by decide +kernel
theorem d_M_holds_69 : decode b_M_holds 69 = .ok (.invokestatic 103, 3) := by decide +kernel
theorem d_M_holds_72 : decode b_M_holds 72 = .ok (.ldc2_w 93, 3) := by decide +kernel
theorem d_M_holds_75 : decode b_M_holds 75 = .ok (.lload 8, 2) := by decide +kernel
theorem d_M_holds_77 : decode b_M_holds 77 = .ok (.lsub, 1) := by decide +kernel
theorem d_M_holds_78 : decode b_M_holds 78 = .ok (.lload 6, 2) := by decide +kernel
theorem d_M_holds_80 : decode b_M_holds 80 = .ok (.iconst 0, 1) := by decide +kernel
theorem d_M_holds_81 : decode b_M_holds 81 = .ok (.invokestatic 89, 3) := by decide +kernel
theorem d_M_holds_84 : decode b_M_holds 84 = .ok (.invokestatic 103, 3) := by decide +kernel
theorem d_M_holds_87 : decode b_M_holds 87 = .ok (.invokestatic 78, 3) := by decide +kernel
theorem d_M_holds_90 : decode b_M_holds 90 = .ok (.lstore 10, 2) := by decide +kernel
theorem d_M_holds_92 : decode b_M_holds 92 = .ok (.lload 10, 2) := by decide +kernel
theorem d_M_holds_94 : decode b_M_holds 94 = .ok (.ldc2_w 35, 3) := by decide +kernel
theorem d_M_holds_97 : decode b_M_holds 97 = .ok (.lcmp, 1) := by decide +kernel
theorem d_M_holds_98 : decode b_M_holds 98 = .ok (.ifCond .eq 27, 3) := by decide +kernel
theorem d_M_holds_101 : decode b_M_holds 101 = .ok (.lload 10, 2) := by decide +kernel
theorem d_M_holds_103 : decode b_M_holds 103 = .ok (.invokestatic 131, 3) := by decide +kernel
theorem d_M_holds_106 : decode b_M_holds 106 = .ok (.ifCond .ne 19, 3) := by decide +kernel
theorem d_M_holds_109 : decode b_M_holds 109 = .ok (.lload 10, 2) := by decide +kernel
theorem d_M_holds_111 : decode b_M_holds 111 = .ok (.invokestatic 64, 3) := by decide +kernel
theorem d_M_holds_114 : decode b_M_holds 114 = .ok (.iload 4, 2) := by decide +kernel
theorem d_M_holds_116 : decode b_M_holds 116 = .ok (.i2l, 1) := by decide +kernel
theorem d_M_holds_117 : decode b_M_holds 117 = .ok (.lcmp, 1) := by decide +kernel
theorem d_M_holds_118 : decode b_M_holds 118 = .ok (.ifCond .ne 7, 3) := by decide +kernel
theorem d_M_holds_121 : decode b_M_holds 121 = .ok (.iconst 1, 1) := by decide +kernel
theorem d_M_holds_122 : decode b_M_holds 122 = .ok (.goto 4, 3) := by decide +kernel
theorem d_M_holds_125 : decode b_M_holds 125 = .ok (.iconst 0, 1) := by decide +kernel
theorem d_M_holds_126 : decode b_M_holds 126 = .ok (.ireturn, 1) := by decide +kernel
theorem d_M_bundle_0 : decode b_M_bundle 0 = .ok (.aload_n 0, 1) := by decide +kernel
theorem d_M_bundle_1 : decode b_M_bundle 1 = .ok (.aload_n 0, 1) := by decide +kernel
theorem d_M_bundle_2 : decode b_M_bundle 2 = .ok (.iload_n 1, 1) := by decide +kernel
theorem d_M_bundle_3 : decode b_M_bundle 3 = .ok (.invokevirtual 138, 3) := by decide +kernel
theorem d_M_bundle_6 : decode b_M_bundle 6 = .ok (.ifCond .eq 11, 3) := by decide +kernel
theorem d_M_bundle_9 : decode b_M_bundle 9 = .ok (.aload_n 0, 1) := by decide +kernel
theorem d_M_bundle_10 : decode b_M_bundle 10 = .ok (.iload_n 1, 1) := by decide +kernel
theorem d_M_bundle_11 : decode b_M_bundle 11 = .ok (.invokevirtual 138, 3) := by decide +kernel
theorem d_M_bundle_14 : decode b_M_bundle 14 = .ok (.goto 17, 3) := by decide +kernel
theorem d_M_bundle_17 : decode b_M_bundle 17 = .ok (.aload_n 0, 1) := by decide +kernel
theorem d_M_bundle_18 : decode b_M_bundle 18 = .ok (.getfield 148, 3) := by decide +kernel
theorem d_M_bundle_21 : decode b_M_bundle 21 = .ok (.bipush 8, 2) := by decide +kernel
theorem d_M_bundle_23 : decode b_M_bundle 23 = .ok (.if_icmp .ne 7, 3) := by decide +kernel
theorem d_M_bundle_26 : decode b_M_bundle 26 = .ok (.iconst 3, 1) := by decide +kernel
theorem d_M_bundle_27 : decode b_M_bundle 27 = .ok (.goto 4, 3) := by decide +kernel
theorem d_M_bundle_30 : decode b_M_bundle 30 = .ok (.iconst 0, 1) := by decide +kernel
theorem d_M_bundle_31 : decode b_M_bundle 31 = .ok (.putfield 37, 3) := by decide +kernel
theorem d_M_bundle_34 : decode b_M_bundle 34 = .ok (.aload_n 0, 1) := by decide +kernel
theorem d_M_bundle_35 : decode b_M_bundle 35 = .ok (.getfield 37, 3) := by decide +kernel
theorem d_M_bundle_38 : decode b_M_bundle 38 = .ok (.ifCond .eq 5, 3) := by decide +kernel
theorem d_M_bundle_41 : decode b_M_bundle 41 = .ok (.iconst 0, 1) := by decide +kernel
theorem d_M_bundle_42 : decode b_M_bundle 42 = .ok (.ireturn, 1) := by decide +kernel
theorem d_M_bundle_43 : decode b_M_bundle 43 = .ok (.aload_n 0, 1) := by decide +kernel
theorem d_M_bundle_44 : decode b_M_bundle 44 = .ok (.getfield 16, 3) := by decide +kernel
theorem d_M_bundle_47 : decode b_M_bundle 47 = .ok (.aload_n 0, 1) := by decide +kernel
theorem d_M_bundle_48 : decode b_M_bundle 48 = .ok (.getfield 148, 3) := by decide +kernel
theorem d_M_bundle_51 : decode b_M_bundle 51 = .ok (.aload_n 0, 1) := by decide +kernel
theorem d_M_bundle_52 : decode b_M_bundle 52 = .ok (.getfield 7, 3) := by decide +kernel
theorem d_M_bundle_55 : decode b_M_bundle 55 = .ok (.iload_n 1, 1) := by decide +kernel
theorem d_M_bundle_56 : decode b_M_bundle 56 = .ok (.laload, 1) := by decide +kernel
theorem d_M_bundle_57 : decode b_M_bundle 57 = .ok (.invokestatic 64, 3) := by decide +kernel
theorem d_M_bundle_60 : decode b_M_bundle 60 = .ok (.lastore, 1) := by decide +kernel
theorem d_M_bundle_61 : decode b_M_bundle 61 = .ok (.aload_n 0, 1) := by decide +kernel
theorem d_M_bundle_62 : decode b_M_bundle 62 = .ok (.getfield 19, 3) := by decide +kernel
theorem d_M_bundle_65 : decode b_M_bundle 65 = .ok (.aload_n 0, 1) := by decide +kernel
theorem d_M_bundle_66 : decode b_M_bundle 66 = .ok (.getfield 148, 3) := by decide +kernel
theorem d_M_bundle_69 : decode b_M_bundle 69 = .ok (.lload_n 2, 1) := by decide +kernel
theorem d_M_bundle_70 : decode b_M_bundle 70 = .ok (.lastore, 1) := by decide +kernel
theorem d_M_bundle_71 : decode b_M_bundle 71 = .ok (.aload_n 0, 1) := by decide +kernel
theorem d_M_bundle_72 : decode b_M_bundle 72 = .ok (.getfield 22, 3) := by decide +kernel
theorem d_M_bundle_75 : decode b_M_bundle 75 = .ok (.aload_n 0, 1) := by decide +kernel
theorem d_M_bundle_76 : decode b_M_bundle 76 = .ok (.getfield 148, 3) := by decide +kernel
theorem d_M_bundle_79 : decode b_M_bundle 79 = .ok (.iload 4, 2) := by decide +kernel
theorem d_M_bundle_81 : decode b_M_bundle 81 = .ok (.iastore, 1) := by decide +kernel
theorem d_M_bundle_82 : decode b_M_bundle 82 = .ok (.aload_n 0, 1) := by decide +kernel
theorem d_M_bundle_83 : decode b_M_bundle 83 = .ok (.getfield 26, 3) := by decide +kernel
theorem d_M_bundle_86 : decode b_M_bundle 86 = .ok (.aload_n 0, 1) := by decide +kernel
theorem d_M_bundle_87 : decode b_M_bundle 87 = .ok (.getfield 148, 3) := by decide +kernel
theorem d_M_bundle_90 : decode b_M_bundle 90 = .ok (.iload 5, 2) := by decide +kernel
theorem d_M_bundle_92 : decode b_M_bundle 92 = .ok (.iastore, 1) := by decide +kernel
theorem d_M_bundle_93 : decode b_M_bundle 93 = .ok (.aload_n 0, 1) := by decide +kernel
theorem d_M_bundle_94 : decode b_M_bundle 94 = .ok (.dup, 1) := by decide +kernel
theorem d_M_bundle_95 : decode b_M_bundle 95 = .ok (.getfield 148, 3) := by decide +kernel
theorem d_M_bundle_98 : decode b_M_bundle 98 = .ok (.iconst 1, 1) := by decide +kernel
theorem d_M_bundle_99 : decode b_M_bundle 99 = .ok (.iadd, 1) := by decide +kernel
theorem d_M_bundle_100 : decode b_M_bundle 100 = .ok (.putfield 148, 3) := by decide +kernel
theorem d_M_bundle_103 : decode b_M_bundle 103 = .ok (.aload_n 0, 1) := by decide +kernel
theorem d_M_bundle_104 : decode b_M_bundle 104 = .ok (.getfield 148, 3) := by decide +kernel
theorem d_M_bundle_107 : decode b_M_bundle 107 = .ok (.ireturn, 1) := by decide +kernel
theorem d_M_right_0 : decode b_M_right 0 = .ok (.aload_n 0, 1) := by decide +kernel
theorem d_M_right_1 : decode b_M_right 1 = .ok (.iconst 0, 1) := by decide +kernel
theorem d_M_right_2 : decode b_M_right 2 = .ok (.putfield 37, 3) := by decide +kernel
theorem d_M_right_5 : decode b_M_right 5 = .ok (.iconst 1, 1) := by decide +kernel
theorem d_M_right_6 : decode b_M_right 6 = .ok (.istore_n 3, 1) := by decide +kernel
theorem d_M_right_7 : decode b_M_right 7 = .ok (.ldc2_w 35, 3) := by decide +kernel
theorem d_M_right_10 : decode b_M_right 10 = .ok (.lstore 4, 2) := by decide +kernel
theorem d_M_right_12 : decode b_M_right 12 = .ok (.ldc2_w 35, 3) := by decide +kernel
theorem d_M_right_15 : decode b_M_right 15 = .ok (.lstore 6, 2) := by decide +kernel
theorem d_M_right_17 : decode b_M_right 17 = .ok (.iconst 0, 1) := by decide +kernel
theorem d_M_right_18 : decode b_M_right 18 = .ok (.istore 8, 2) := by decide +kernel
theorem d_M_right_20 : decode b_M_right 20 = .ok (.iload 8, 2) := by decide +kernel
theorem d_M_right_22 : decode b_M_right 22 = .ok (.aload_n 0, 1) := by decide +kernel
theorem d_M_right_23 : decode b_M_right 23 = .ok (.getfield 148, 3) := by decide +kernel
theorem d_M_right_26 : decode b_M_right 26 = .ok (.if_icmp .ge 181, 3) := by decide +kernel
theorem d_M_right_29 : decode b_M_right 29 = .ok (.iload_n 3, 1) := by decide +kernel
theorem d_M_right_30 : decode b_M_right 30 = .ok (.ifCond .eq 177, 3) := by decide +kernel
theorem d_M_right_33 : decode b_M_right 33 = .ok (.iload 8, 2) := by decide +kernel
theorem d_M_right_35 : decode b_M_right 35 = .ok (.ifCond .ne 7, 3) := by decide +kernel
theorem d_M_right_38 : decode b_M_right 38 = .ok (.lconst 1, 1) := by decide +kernel
theorem d_M_right_39 : decode b_M_right 39 = .ok (.goto 19, 3) := by decide +kernel
theorem d_M_right_42 : decode b_M_right 42 = .ok (.lconst 1, 1) := by decide +kernel
theorem d_M_right_43 : decode b_M_right 43 = .ok (.lload_n 1, 1) := by decide +kernel
theorem d_M_right_44 : decode b_M_right 44 = .ok (.iload 8, 2) := by decide +kernel
theorem d_M_right_46 : decode b_M_right 46 = .ok (.i2l, 1) := by decide +kernel
theorem d_M_right_47 : decode b_M_right 47 = .ok (.invokestatic 59, 3) := by decide +kernel
theorem d_M_right_50 : decode b_M_right 50 = .ok (.bipush 34, 2) := by decide +kernel
theorem d_M_right_52 : decode b_M_right 52 = .ok (.lushr, 1) := by decide +kernel
theorem d_M_right_53 : decode b_M_right 53 = .ok (.ldc2_w 151, 3) := by decide +kernel
theorem d_M_right_56 : decode b_M_right 56 = .ok (.lrem, 1) := by decide +kernel
theorem d_M_right_57 : decode b_M_right 57 = .ok (.ladd, 1) := by decide +kernel
theorem d_M_right_58 : decode b_M_right 58 = .ok (.lstore 9, 2) := by decide +kernel
theorem d_M_right_60 : decode b_M_right 60 = .ok (.aload_n 0, 1) := by decide +kernel
theorem d_M_right_61 : decode b_M_right 61 = .ok (.getfield 22, 3) := by decide +kernel
theorem d_M_right_64 : decode b_M_right 64 = .ok (.iload 8, 2) := by decide +kernel
theorem d_M_right_66 : decode b_M_right 66 = .ok (.iaload, 1) := by decide +kernel
theorem d_M_right_67 : decode b_M_right 67 = .ok (.i2l, 1) := by decide +kernel
theorem d_M_right_68 : decode b_M_right 68 = .ok (.iconst 0, 1) := by decide +kernel
theorem d_M_right_69 : decode b_M_right 69 = .ok (.invokestatic 89, 3) := by decide +kernel
theorem d_M_right_72 : decode b_M_right 72 = .ok (.lstore 11, 2) := by decide +kernel
theorem d_M_right_74 : decode b_M_right 74 = .ok (.lload 11, 2) := by decide +kernel
theorem d_M_right_76 : decode b_M_right 76 = .ok (.ldc2_w 35, 3) := by decide +kernel
theorem d_M_right_79 : decode b_M_right 79 = .ok (.lcmp, 1) := by decide +kernel
theorem d_M_right_80 : decode b_M_right 80 = .ok (.ifCond .eq 20, 3) := by decide +kernel
theorem d_M_right_83 : decode b_M_right 83 = .ok (.aload_n 0, 1) := by decide +kernel
theorem d_M_right_84 : decode b_M_right 84 = .ok (.getfield 26, 3) := by decide +kernel
theorem d_M_right_87 : decode b_M_right 87 = .ok (.iload 8, 2) := by decide +kernel
theorem d_M_right_89 : decode b_M_right 89 = .ok (.iaload, 1) := by decide +kernel
theorem d_M_right_90 : decode b_M_right 90 = .ok (.invokestatic 119, 3) := by decide +kernel
theorem d_M_right_93 : decode b_M_right 93 = .ok (.ifCond .eq 7, 3) := by decide +kernel
theorem d_M_right_96 : decode b_M_right 96 = .ok (.iconst 1, 1) := by decide +kernel
theorem d_M_right_97 : decode b_M_right 97 = .ok (.goto 4, 3) := by decide +kernel
theorem d_M_right_100 : decode b_M_right 100 = .ok (.iconst 0, 1) := by decide +kernel
theorem d_M_right_101 : decode b_M_right 101 = .ok (.istore_n 3, 1) := by decide +kernel
theorem d_M_right_102 : decode b_M_right 102 = .ok (.iload_n 3, 1) := by decide +kernel
theorem d_M_right_103 : decode b_M_right 103 = .ok (.ifCond .eq 98, 3) := by decide +kernel
theorem d_M_right_106 : decode b_M_right 106 = .ok (.aload_n 0, 1) := by decide +kernel
theorem d_M_right_107 : decode b_M_right 107 = .ok (.getfield 22, 3) := by decide +kernel
theorem d_M_right_110 : decode b_M_right 110 = .ok (.iload 8, 2) := by decide +kernel
theorem d_M_right_112 : decode b_M_right 112 = .ok (.iaload, 1) := by decide +kernel
theorem d_M_right_113 : decode b_M_right 113 = .ok (.i2l, 1) := by decide +kernel
theorem d_M_right_114 : decode b_M_right 114 = .ok (.aload_n 0, 1) := by decide +kernel
theorem d_M_right_115 : decode b_M_right 115 = .ok (.getfield 16, 3) := by decide +kernel
theorem d_M_right_118 : decode b_M_right 118 = .ok (.iload 8, 2) := by decide +kernel
theorem d_M_right_120 : decode b_M_right 120 = .ok (.laload, 1) := by decide +kernel
theorem d_M_right_121 : decode b_M_right 121 = .ok (.aload_n 0, 1) := by decide +kernel
theorem d_M_right_122 : decode b_M_right 122 = .ok (.getfield 19, 3) := by decide +kernel
theorem d_M_right_125 : decode b_M_right 125 = .ok (.iload 8, 2) := by decide +kernel
theorem d_M_right_127 : decode b_M_right 127 = .ok (.laload, 1) := by decide +kernel
theorem d_M_right_128 : decode b_M_right 128 = .ok (.invokestatic 145, 3) := by decide +kernel
theorem d_M_right_131 : decode b_M_right 131 = .ok (.lstore 13, 2) := by decide +kernel
theorem d_M_right_133 : decode b_M_right 133 = .ok (.lload 4, 2) := by decide +kernel
theorem d_M_right_135 : decode b_M_right 135 = .ok (.lload 9, 2) := by decide +kernel
theorem d_M_right_137 : decode b_M_right 137 = .ok (.aload_n 0, 1) := by decide +kernel
theorem d_M_right_138 : decode b_M_right 138 = .ok (.getfield 26, 3) := by decide +kernel
theorem d_M_right_141 : decode b_M_right 141 = .ok (.iload 8, 2) := by decide +kernel
theorem d_M_right_143 : decode b_M_right 143 = .ok (.iaload, 1) := by decide +kernel
theorem d_M_right_144 : decode b_M_right 144 = .ok (.i2l, 1) := by decide +kernel
theorem d_M_right_145 : decode b_M_right 145 = .ok (.lmul, 1) := by decide +kernel
theorem d_M_right_146 : decode b_M_right 146 = .ok (.ldc2_w 93, 3) := by decide +kernel
theorem d_M_right_149 : decode b_M_right 149 = .ok (.lrem, 1) := by decide +kernel
theorem d_M_right_150 : decode b_M_right 150 = .ok (.invokestatic 99, 3) := by decide +kernel
theorem d_M_right_153 : decode b_M_right 153 = .ok (.invokestatic 103, 3) := by decide +kernel
theorem d_M_right_156 : decode b_M_right 156 = .ok (.invokestatic 78, 3) := by decide +kernel
theorem d_M_right_159 : decode b_M_right 159 = .ok (.lstore 4, 2) := by decide +kernel
theorem d_M_right_161 : decode b_M_right 161 = .ok (.lload 6, 2) := by decide +kernel
theorem d_M_right_163 : decode b_M_right 163 = .ok (.lload 9, 2) := by decide +kernel
theorem d_M_right_165 : decode b_M_right 165 = .ok (.lload 11, 2) := by decide +kernel
theorem d_M_right_167 : decode b_M_right 167 = .ok (.invokestatic 103, 3) := by decide +kernel
theorem d_M_right_170 : decode b_M_right 170 = .ok (.lload 9, 2) := by decide +kernel
theorem d_M_right_172 : decode b_M_right 172 = .ok (.lload 13, 2) := by decide +kernel
theorem d_M_right_174 : decode b_M_right 174 = .ok (.lmul, 1) := by decide +kernel
theorem d_M_right_175 : decode b_M_right 175 = .ok (.ldc2_w 93, 3) := by decide +kernel
theorem d_M_right_178 : decode b_M_right 178 = .ok (.lrem, 1) := by decide +kernel
theorem d_M_right_179 : decode b_M_right 179 = .ok (.aload_n 0, 1) := by decide +kernel
theorem d_M_right_180 : decode b_M_right 180 = .ok (.getfield 16, 3) := by decide +kernel
theorem d_M_right_183 : decode b_M_right 183 = .ok (.iload 8, 2) := by decide +kernel
theorem d_M_right_185 : decode b_M_right 185 = .ok (.laload, 1) := by decide +kernel
theorem d_M_right_186 : decode b_M_right 186 = .ok (.iconst 0, 1) := by decide +kernel
theorem d_M_right_187 : decode b_M_right 187 = .ok (.invokestatic 89, 3) := by decide +kernel
theorem d_M_right_190 : decode b_M_right 190 = .ok (.invokestatic 103, 3) := by decide +kernel
theorem d_M_right_193 : decode b_M_right 193 = .ok (.invokestatic 78, 3) := by decide +kernel
theorem d_M_right_196 : decode b_M_right 196 = .ok (.invokestatic 78, 3) := by decide +kernel
theorem d_M_right_199 : decode b_M_right 199 = .ok (.lstore 6, 2) := by decide +kernel
theorem d_M_right_201 : decode b_M_right 201 = .ok (.iinc 8 1, 3) := by decide +kernel
theorem d_M_right_204 : decode b_M_right 204 = .ok (.goto (-184), 3) := by decide +kernel
theorem d_M_right_207 : decode b_M_right 207 = .ok (.aload_n 0, 1) := by decide +kernel
theorem d_M_right_208 : decode b_M_right 208 = .ok (.iconst 0, 1) := by decide +kernel
theorem d_M_right_209 : decode b_M_right 209 = .ok (.putfield 148, 3) := by decide +kernel
theorem d_M_right_212 : decode b_M_right 212 = .ok (.iload_n 3, 1) := by decide +kernel
theorem d_M_right_213 : decode b_M_right 213 = .ok (.ifCond .eq 15, 3) := by decide +kernel
theorem d_M_right_216 : decode b_M_right 216 = .ok (.lload 4, 2) := by decide +kernel
theorem d_M_right_218 : decode b_M_right 218 = .ok (.lload 6, 2) := by decide +kernel
theorem d_M_right_220 : decode b_M_right 220 = .ok (.lcmp, 1) := by decide +kernel
theorem d_M_right_221 : decode b_M_right 221 = .ok (.ifCond .ne 7, 3) := by decide +kernel
theorem d_M_right_224 : decode b_M_right 224 = .ok (.iconst 1, 1) := by decide +kernel
theorem d_M_right_225 : decode b_M_right 225 = .ok (.goto 4, 3) := by decide +kernel
theorem d_M_right_228 : decode b_M_right 228 = .ok (.iconst 0, 1) := by decide +kernel
theorem d_M_right_229 : decode b_M_right 229 = .ok (.ireturn, 1) := by decide +kernel
theorem d_M_agree_0 : decode b_M_agree 0 = .ok (.aload_n 0, 1) := by decide +kernel
theorem d_M_agree_1 : decode b_M_agree 1 = .ok (.iload_n 1, 1) := by decide +kernel
theorem d_M_agree_2 : decode b_M_agree 2 = .ok (.invokestatic 95, 3) := by decide +kernel
theorem d_M_agree_5 : decode b_M_agree 5 = .ok (.ifCond .eq 10, 3) := by decide +kernel
theorem d_M_agree_8 : decode b_M_agree 8 = .ok (.iload_n 2, 1) := by decide +kernel
theorem d_M_agree_9 : decode b_M_agree 9 = .ok (.invokestatic 95, 3) := by decide +kernel
theorem d_M_agree_12 : decode b_M_agree 12 = .ok (.ifCond .ne 7, 3) := by decide +kernel
theorem d_M_agree_15 : decode b_M_agree 15 = .ok (.iconst 1, 1) := by decide +kernel
theorem d_M_agree_16 : decode b_M_agree 16 = .ok (.goto 31, 3) := by decide +kernel
theorem d_M_agree_19 : decode b_M_agree 19 = .ok (.aload_n 0, 1) := by decide +kernel
theorem d_M_agree_20 : decode b_M_agree 20 = .ok (.getfield 13, 3) := by decide +kernel
theorem d_M_agree_23 : decode b_M_agree 23 = .ok (.iload_n 1, 1) := by decide +kernel
theorem d_M_agree_24 : decode b_M_agree 24 = .ok (.laload, 1) := by decide +kernel
theorem d_M_agree_25 : decode b_M_agree 25 = .ok (.lconst 0, 1) := by decide +kernel
theorem d_M_agree_26 : decode b_M_agree 26 = .ok (.lcmp, 1) := by decide +kernel
theorem d_M_agree_27 : decode b_M_agree 27 = .ok (.ifCond .ne 7, 3) := by decide +kernel
theorem d_M_agree_30 : decode b_M_agree 30 = .ok (.iconst 2, 1) := by decide +kernel
theorem d_M_agree_31 : decode b_M_agree 31 = .ok (.goto 16, 3) := by decide +kernel
theorem d_M_agree_34 : decode b_M_agree 34 = .ok (.aload_n 0, 1) := by decide +kernel
theorem d_M_agree_35 : decode b_M_agree 35 = .ok (.iload_n 2, 1) := by decide +kernel
theorem d_M_agree_36 : decode b_M_agree 36 = .ok (.invokevirtual 116, 3) := by decide +kernel
theorem d_M_agree_39 : decode b_M_agree 39 = .ok (.ifCond .ne 7, 3) := by decide +kernel
theorem d_M_agree_42 : decode b_M_agree 42 = .ok (.iconst 3, 1) := by decide +kernel
theorem d_M_agree_43 : decode b_M_agree 43 = .ok (.goto 4, 3) := by decide +kernel
theorem d_M_agree_46 : decode b_M_agree 46 = .ok (.iconst 0, 1) := by decide +kernel
theorem d_M_agree_47 : decode b_M_agree 47 = .ok (.putfield 37, 3) := by decide +kernel
theorem d_M_agree_50 : decode b_M_agree 50 = .ok (.aload_n 0, 1) := by decide +kernel
theorem d_M_agree_51 : decode b_M_agree 51 = .ok (.getfield 37, 3) := by decide +kernel
theorem d_M_agree_54 : decode b_M_agree 54 = .ok (.ifCond .eq 5, 3) := by decide +kernel
theorem d_M_agree_57 : decode b_M_agree 57 = .ok (.lconst 0, 1) := by decide +kernel
theorem d_M_agree_58 : decode b_M_agree 58 = .ok (.lreturn, 1) := by decide +kernel
theorem d_M_agree_59 : decode b_M_agree 59 = .ok (.aload_n 0, 1) := by decide +kernel
theorem d_M_agree_60 : decode b_M_agree 60 = .ok (.getfield 13, 3) := by decide +kernel
theorem d_M_agree_63 : decode b_M_agree 63 = .ok (.iload_n 1, 1) := by decide +kernel
theorem d_M_agree_64 : decode b_M_agree 64 = .ok (.laload, 1) := by decide +kernel
theorem d_M_agree_65 : decode b_M_agree 65 = .ok (.aload_n 0, 1) := by decide +kernel
theorem d_M_agree_66 : decode b_M_agree 66 = .ok (.getfield 7, 3) := by decide +kernel
theorem d_M_agree_69 : decode b_M_agree 69 = .ok (.iload_n 2, 1) := by decide +kernel
theorem d_M_agree_70 : decode b_M_agree 70 = .ok (.laload, 1) := by decide +kernel
theorem d_M_agree_71 : decode b_M_agree 71 = .ok (.invokestatic 103, 3) := by decide +kernel
theorem d_M_agree_74 : decode b_M_agree 74 = .ok (.lstore_n 3, 1) := by decide +kernel
theorem d_M_agree_75 : decode b_M_agree 75 = .ok (.lload_n 3, 1) := by decide +kernel
theorem d_M_agree_76 : decode b_M_agree 76 = .ok (.invokestatic 64, 3) := by decide +kernel
theorem d_M_agree_79 : decode b_M_agree 79 = .ok (.lload_n 3, 1) := by decide +kernel
theorem d_M_agree_80 : decode b_M_agree 80 = .ok (.invokestatic 68, 3) := by decide +kernel
theorem d_M_agree_83 : decode b_M_agree 83 = .ok (.invokestatic 59, 3) := by decide +kernel
theorem d_M_agree_86 : decode b_M_agree 86 = .ok (.lreturn, 1) := by decide +kernel
theorem d_M_written_0 : decode b_M_written 0 = .ok (.aload_n 0, 1) := by decide +kernel
theorem d_M_written_1 : decode b_M_written 1 = .ok (.iload_n 1, 1) := by decide +kernel
theorem d_M_written_2 : decode b_M_written 2 = .ok (.ifCond .lt 7, 3) := by decide +kernel
theorem d_M_written_5 : decode b_M_written 5 = .ok (.iload_n 2, 1) := by decide +kernel
theorem d_M_written_6 : decode b_M_written 6 = .ok (.ifCond .ge 7, 3) := by decide +kernel
theorem d_M_written_9 : decode b_M_written 9 = .ok (.iconst 1, 1) := by decide +kernel
theorem d_M_written_10 : decode b_M_written 10 = .ok (.goto 4, 3) := by decide +kernel
theorem d_M_written_13 : decode b_M_written 13 = .ok (.iconst 0, 1) := by decide +kernel
theorem d_M_written_14 : decode b_M_written 14 = .ok (.putfield 37, 3) := by decide +kernel
theorem d_M_written_17 : decode b_M_written 17 = .ok (.aload_n 0, 1) := by decide +kernel
theorem d_M_written_18 : decode b_M_written 18 = .ok (.getfield 37, 3) := by decide +kernel
theorem d_M_written_21 : decode b_M_written 21 = .ok (.ifCond .ne 31, 3) := by decide +kernel
theorem d_M_written_24 : decode b_M_written 24 = .ok (.aload_n 0, 1) := by decide +kernel
theorem d_M_written_25 : decode b_M_written 25 = .ok (.iload_n 1, 1) := by decide +kernel
theorem d_M_written_26 : decode b_M_written 26 = .ok (.iload_n 2, 1) := by decide +kernel
theorem d_M_written_27 : decode b_M_written 27 = .ok (.invokevirtual 168, 3) := by decide +kernel
theorem d_M_written_30 : decode b_M_written 30 = .ok (.aload_n 0, 1) := by decide +kernel
theorem d_M_written_31 : decode b_M_written 31 = .ok (.iload_n 3, 1) := by decide +kernel
theorem d_M_written_32 : decode b_M_written 32 = .ok (.iconst (-1), 1) := by decide +kernel
theorem d_M_written_33 : decode b_M_written 33 = .ok (.if_icmp .lt 11, 3) := by decide +kernel
theorem d_M_written_36 : decode b_M_written 36 = .ok (.iload_n 3, 1) := by decide +kernel
theorem d_M_written_37 : decode b_M_written 37 = .ok (.aload_n 0, 1) := by decide +kernel
theorem d_M_written_38 : decode b_M_written 38 = .ok (.getfield 155, 3) := by decide +kernel
theorem d_M_written_41 : decode b_M_written 41 = .ok (.if_icmp .lt 7, 3) := by decide +kernel
theorem d_M_written_44 : decode b_M_written 44 = .ok (.iconst 1, 1) := by decide +kernel
theorem d_M_written_45 : decode b_M_written 45 = .ok (.goto 4, 3) := by decide +kernel
theorem d_M_written_48 : decode b_M_written 48 = .ok (.iconst 0, 1) := by decide +kernel
theorem d_M_written_49 : decode b_M_written 49 = .ok (.putfield 37, 3) := by decide +kernel
theorem d_M_written_52 : decode b_M_written 52 = .ok (.aload_n 0, 1) := by decide +kernel
theorem d_M_written_53 : decode b_M_written 53 = .ok (.getfield 37, 3) := by decide +kernel
theorem d_M_written_56 : decode b_M_written 56 = .ok (.ifCond .eq 7, 3) := by decide +kernel
theorem d_M_written_59 : decode b_M_written 59 = .ok (.iconst 0, 1) := by decide +kernel
theorem d_M_written_60 : decode b_M_written 60 = .ok (.goto 20, 3) := by decide +kernel
theorem d_M_written_63 : decode b_M_written 63 = .ok (.iload_n 3, 1) := by decide +kernel
theorem d_M_written_64 : decode b_M_written 64 = .ok (.ifCond .ge 10, 3) := by decide +kernel
theorem d_M_written_67 : decode b_M_written 67 = .ok (.aload_n 0, 1) := by decide +kernel
theorem d_M_written_68 : decode b_M_written 68 = .ok (.getfield 155, 3) := by decide +kernel
theorem d_M_written_71 : decode b_M_written 71 = .ok (.goto 9, 3) := by decide +kernel
theorem d_M_written_74 : decode b_M_written 74 = .ok (.aload_n 0, 1) := by decide +kernel
theorem d_M_written_75 : decode b_M_written 75 = .ok (.getfield 32, 3) := by decide +kernel
theorem d_M_written_78 : decode b_M_written 78 = .ok (.iload_n 3, 1) := by decide +kernel
theorem d_M_written_79 : decode b_M_written 79 = .ok (.iaload, 1) := by decide +kernel
theorem d_M_written_80 : decode b_M_written 80 = .ok (.ireturn, 1) := by decide +kernel
theorem d_M_layForm_0 : decode b_M_layForm 0 = .ok (.aload_n 0, 1) := by decide +kernel
theorem d_M_layForm_1 : decode b_M_layForm 1 = .ok (.iconst 0, 1) := by decide +kernel
theorem d_M_layForm_2 : decode b_M_layForm 2 = .ok (.putfield 155, 3) := by decide +kernel
theorem d_M_layForm_5 : decode b_M_layForm 5 = .ok (.aload_n 0, 1) := by decide +kernel
theorem d_M_layForm_6 : decode b_M_layForm 6 = .ok (.bipush 48, 2) := by decide +kernel
theorem d_M_layForm_8 : decode b_M_layForm 8 = .ok (.invokevirtual 158, 3) := by decide +kernel
theorem d_M_layForm_11 : decode b_M_layForm 11 = .ok (.aload_n 0, 1) := by decide +kernel
theorem d_M_layForm_12 : decode b_M_layForm 12 = .ok (.iconst 4, 1) := by decide +kernel
theorem d_M_layForm_13 : decode b_M_layForm 13 = .ok (.iload_n 1, 1) := by decide +kernel
theorem d_M_layForm_14 : decode b_M_layForm 14 = .ok (.invokestatic 162, 3) := by decide +kernel
theorem d_M_layForm_17 : decode b_M_layForm 17 = .ok (.iadd, 1) := by decide +kernel
theorem d_M_layForm_18 : decode b_M_layForm 18 = .ok (.iload_n 2, 1) := by decide +kernel
theorem d_M_layForm_19 : decode b_M_layForm 19 = .ok (.invokestatic 162, 3) := by decide +kernel
theorem d_M_layForm_22 : decode b_M_layForm 22 = .ok (.iadd, 1) := by decide +kernel
theorem d_M_layForm_23 : decode b_M_layForm 23 = .ok (.invokevirtual 158, 3) := by decide +kernel
theorem d_M_layForm_26 : decode b_M_layForm 26 = .ok (.aload_n 0, 1) := by decide +kernel
theorem d_M_layForm_27 : decode b_M_layForm 27 = .ok (.iload_n 1, 1) := by decide +kernel
theorem d_M_layForm_28 : decode b_M_layForm 28 = .ok (.invokevirtual 165, 3) := by decide +kernel
theorem d_M_layForm_31 : decode b_M_layForm 31 = .ok (.aload_n 0, 1) := by decide +kernel
theorem d_M_layForm_32 : decode b_M_layForm 32 = .ok (.iload_n 2, 1) := by decide +kernel
theorem d_M_layForm_33 : decode b_M_layForm 33 = .ok (.invokevirtual 165, 3) := by decide +kernel
theorem d_M_layForm_36 : decode b_M_layForm 36 = .ok (.return_, 1) := by decide +kernel
theorem d_M_layByte_0 : decode b_M_layByte 0 = .ok (.aload_n 0, 1) := by decide +kernel
theorem d_M_layByte_1 : decode b_M_layByte 1 = .ok (.getfield 32, 3) := by decide +kernel
theorem d_M_layByte_4 : decode b_M_layByte 4 = .ok (.aload_n 0, 1) := by decide +kernel
theorem d_M_layByte_5 : decode b_M_layByte 5 = .ok (.getfield 155, 3) := by decide +kernel
theorem d_M_layByte_8 : decode b_M_layByte 8 = .ok (.iload_n 1, 1) := by decide +kernel
theorem d_M_layByte_9 : decode b_M_layByte 9 = .ok (.iastore, 1) := by decide +kernel
theorem d_M_layByte_10 : decode b_M_layByte 10 = .ok (.aload_n 0, 1) := by decide +kernel
theorem d_M_layByte_11 : decode b_M_layByte 11 = .ok (.dup, 1) := by decide +kernel
theorem d_M_layByte_12 : decode b_M_layByte 12 = .ok (.getfield 155, 3) := by decide +kernel
theorem d_M_layByte_15 : decode b_M_layByte 15 = .ok (.iconst 1, 1) := by decide +kernel
theorem d_M_layByte_16 : decode b_M_layByte 16 = .ok (.iadd, 1) := by decide +kernel
theorem d_M_layByte_17 : decode b_M_layByte 17 = .ok (.putfield 155, 3) := by decide +kernel
theorem d_M_layByte_20 : decode b_M_layByte 20 = .ok (.return_, 1) := by decide +kernel
theorem d_M_layNumber_0 : decode b_M_layNumber 0 = .ok (.aload_n 0, 1) := by decide +kernel
theorem d_M_layNumber_1 : decode b_M_layNumber 1 = .ok (.iconst 2, 1) := by decide +kernel
theorem d_M_layNumber_2 : decode b_M_layNumber 2 = .ok (.invokevirtual 158, 3) := by decide +kernel
theorem d_M_layNumber_5 : decode b_M_layNumber 5 = .ok (.aload_n 0, 1) := by decide +kernel
theorem d_M_layNumber_6 : decode b_M_layNumber 6 = .ok (.iload_n 1, 1) := by decide +kernel
theorem d_M_layNumber_7 : decode b_M_layNumber 7 = .ok (.invokestatic 162, 3) := by decide +kernel
theorem d_M_layNumber_10 : decode b_M_layNumber 10 = .ok (.invokevirtual 158, 3) := by decide +kernel
theorem d_M_layNumber_13 : decode b_M_layNumber 13 = .ok (.iload_n 1, 1) := by decide +kernel
theorem d_M_layNumber_14 : decode b_M_layNumber 14 = .ok (.invokestatic 162, 3) := by decide +kernel
theorem d_M_layNumber_17 : decode b_M_layNumber 17 = .ok (.iconst 1, 1) := by decide +kernel
theorem d_M_layNumber_18 : decode b_M_layNumber 18 = .ok (.isub, 1) := by decide +kernel
theorem d_M_layNumber_19 : decode b_M_layNumber 19 = .ok (.istore_n 2, 1) := by decide +kernel
theorem d_M_layNumber_20 : decode b_M_layNumber 20 = .ok (.iload_n 2, 1) := by decide +kernel
theorem d_M_layNumber_21 : decode b_M_layNumber 21 = .ok (.ifCond .lt 23, 3) := by decide +kernel
theorem d_M_layNumber_24 : decode b_M_layNumber 24 = .ok (.aload_n 0, 1) := by decide +kernel
theorem d_M_layNumber_25 : decode b_M_layNumber 25 = .ok (.iload_n 1, 1) := by decide +kernel
theorem d_M_layNumber_26 : decode b_M_layNumber 26 = .ok (.bipush 8, 2) := by decide +kernel
theorem d_M_layNumber_28 : decode b_M_layNumber 28 = .ok (.iload_n 2, 1) := by decide +kernel
theorem d_M_layNumber_29 : decode b_M_layNumber 29 = .ok (.imul, 1) := by decide +kernel
theorem d_M_layNumber_30 : decode b_M_layNumber 30 = .ok (.ishr, 1) := by decide +kernel
theorem d_M_layNumber_31 : decode b_M_layNumber 31 = .ok (.sipush 255, 3) := by decide +kernel
theorem d_M_layNumber_34 : decode b_M_layNumber 34 = .ok (.iand, 1) := by decide +kernel
theorem d_M_layNumber_35 : decode b_M_layNumber 35 = .ok (.invokevirtual 158, 3) := by decide +kernel
theorem d_M_layNumber_38 : decode b_M_layNumber 38 = .ok (.iinc 2 (-1), 3) := by decide +kernel
theorem d_M_layNumber_41 : decode b_M_layNumber 41 = .ok (.goto (-21), 3) := by decide +kernel
theorem d_M_layNumber_44 : decode b_M_layNumber 44 = .ok (.return_, 1) := by decide +kernel
theorem d_M_type_0 : decode b_M_type 0 = .ok (.aload_n 0, 1) := by decide +kernel
theorem d_M_type_1 : decode b_M_type 1 = .ok (.iload_n 1, 1) := by decide +kernel
theorem d_M_type_2 : decode b_M_type 2 = .ok (.ifCond .lt 10, 3) := by decide +kernel
theorem d_M_type_5 : decode b_M_type 5 = .ok (.iload_n 1, 1) := by decide +kernel
theorem d_M_type_6 : decode b_M_type 6 = .ok (.sipush 255, 3) := by decide +kernel
theorem d_M_type_9 : decode b_M_type 9 = .ok (.if_icmp .le 7, 3) := by decide +kernel
theorem d_M_type_12 : decode b_M_type 12 = .ok (.iconst 1, 1) := by decide +kernel
theorem d_M_type_13 : decode b_M_type 13 = .ok (.goto 17, 3) := by decide +kernel
theorem d_M_type_16 : decode b_M_type 16 = .ok (.aload_n 0, 1) := by decide +kernel
theorem d_M_type_17 : decode b_M_type 17 = .ok (.getfield 172, 3) := by decide +kernel
theorem d_M_type_20 : decode b_M_type 20 = .ok (.bipush 20, 2) := by decide +kernel
theorem d_M_type_22 : decode b_M_type 22 = .ok (.if_icmp .ne 7, 3) := by decide +kernel
theorem d_M_type_25 : decode b_M_type 25 = .ok (.iconst 2, 1) := by decide +kernel
theorem d_M_type_26 : decode b_M_type 26 = .ok (.goto 4, 3) := by decide +kernel
theorem d_M_type_29 : decode b_M_type 29 = .ok (.iconst 0, 1) := by decide +kernel
theorem d_M_type_30 : decode b_M_type 30 = .ok (.putfield 37, 3) := by decide +kernel
theorem d_M_type_33 : decode b_M_type 33 = .ok (.aload_n 0, 1) := by decide +kernel
theorem d_M_type_34 : decode b_M_type 34 = .ok (.getfield 37, 3) := by decide +kernel
theorem d_M_type_37 : decode b_M_type 37 = .ok (.ifCond .eq 5, 3) := by decide +kernel
theorem d_M_type_40 : decode b_M_type 40 = .ok (.iconst 0, 1) := by decide +kernel
theorem d_M_type_41 : decode b_M_type 41 = .ok (.ireturn, 1) := by decide +kernel
theorem d_M_type_42 : decode b_M_type 42 = .ok (.aload_n 0, 1) := by decide +kernel
theorem d_M_type_43 : decode b_M_type 43 = .ok (.getfield 29, 3) := by decide +kernel
theorem d_M_type_46 : decode b_M_type 46 = .ok (.aload_n 0, 1) := by decide +kernel
theorem d_M_type_47 : decode b_M_type 47 = .ok (.getfield 172, 3) := by decide +kernel
theorem d_M_type_50 : decode b_M_type 50 = .ok (.iload_n 1, 1) := by decide +kernel
theorem d_M_type_51 : decode b_M_type 51 = .ok (.iastore, 1) := by decide +kernel
theorem d_M_type_52 : decode b_M_type 52 = .ok (.aload_n 0, 1) := by decide +kernel
theorem d_M_type_53 : decode b_M_type 53 = .ok (.dup, 1) := by decide +kernel
theorem d_M_type_54 : decode b_M_type 54 = .ok (.getfield 172, 3) := by decide +kernel
theorem d_M_type_57 : decode b_M_type 57 = .ok (.iconst 1, 1) := by decide +kernel
theorem d_M_type_58 : decode b_M_type 58 = .ok (.iadd, 1) := by decide +kernel
theorem d_M_type_59 : decode b_M_type 59 = .ok (.putfield 172, 3) := by decide +kernel
theorem d_M_type_62 : decode b_M_type 62 = .ok (.aload_n 0, 1) := by decide +kernel
theorem d_M_type_63 : decode b_M_type 63 = .ok (.getfield 172, 3) := by decide +kernel
theorem d_M_type_66 : decode b_M_type 66 = .ok (.ireturn, 1) := by decide +kernel
theorem d_M_read_0 : decode b_M_read 0 = .ok (.aload_n 0, 1) := by decide +kernel
theorem d_M_read_1 : decode b_M_read 1 = .ok (.iconst 0, 1) := by decide +kernel
theorem d_M_read_2 : decode b_M_read 2 = .ok (.putfield 37, 3) := by decide +kernel
theorem d_M_read_5 : decode b_M_read 5 = .ok (.aload_n 0, 1) := by decide +kernel
theorem d_M_read_6 : decode b_M_read 6 = .ok (.iconst 3, 1) := by decide +kernel
theorem d_M_read_7 : decode b_M_read 7 = .ok (.invokevirtual 178, 3) := by decide +kernel
theorem d_M_read_10 : decode b_M_read 10 = .ok (.istore_n 1, 1) := by decide +kernel
theorem d_M_read_11 : decode b_M_read 11 = .ok (.aload_n 0, 1) := by decide +kernel
theorem d_M_read_12 : decode b_M_read 12 = .ok (.iconst 5, 1) := by decide +kernel
theorem d_M_read_13 : decode b_M_read 13 = .ok (.aload_n 0, 1) := by decide +kernel
theorem d_M_read_14 : decode b_M_read 14 = .ok (.iconst 3, 1) := by decide +kernel
theorem d_M_read_15 : decode b_M_read 15 = .ok (.invokevirtual 175, 3) := by decide +kernel
theorem d_M_read_18 : decode b_M_read 18 = .ok (.iadd, 1) := by decide +kernel
theorem d_M_read_19 : decode b_M_read 19 = .ok (.invokevirtual 178, 3) := by decide +kernel
theorem d_M_read_22 : decode b_M_read 22 = .ok (.istore_n 2, 1) := by decide +kernel
theorem d_M_read_23 : decode b_M_read 23 = .ok (.aload_n 0, 1) := by decide +kernel
theorem d_M_read_24 : decode b_M_read 24 = .ok (.iload_n 1, 1) := by decide +kernel
theorem d_M_read_25 : decode b_M_read 25 = .ok (.iload_n 2, 1) := by decide +kernel
theorem d_M_read_26 : decode b_M_read 26 = .ok (.invokevirtual 181, 3) := by decide +kernel
theorem d_M_read_29 : decode b_M_read 29 = .ok (.istore_n 3, 1) := by decide +kernel
theorem d_M_read_30 : decode b_M_read 30 = .ok (.aload_n 0, 1) := by decide +kernel
theorem d_M_read_31 : decode b_M_read 31 = .ok (.iconst 0, 1) := by decide +kernel
theorem d_M_read_32 : decode b_M_read 32 = .ok (.putfield 172, 3) := by decide +kernel
theorem d_M_read_35 : decode b_M_read 35 = .ok (.iload_n 3, 1) := by decide +kernel
theorem d_M_read_36 : decode b_M_read 36 = .ok (.ifCond .eq 15, 3) := by decide +kernel
theorem d_M_read_39 : decode b_M_read 39 = .ok (.iload_n 1, 1) := by decide +kernel
theorem d_M_read_40 : decode b_M_read 40 = .ok (.i2l, 1) := by decide +kernel
theorem d_M_read_41 : decode b_M_read 41 = .ok (.ldc2_w 87, 3) := by decide +kernel
theorem d_M_read_44 : decode b_M_read 44 = .ok (.lmul, 1) := by decide +kernel
theorem d_M_read_45 : decode b_M_read 45 = .ok (.iload_n 2, 1) := by decide +kernel
theorem d_M_read_46 : decode b_M_read 46 = .ok (.i2l, 1) := by decide +kernel
theorem d_M_read_47 : decode b_M_read 47 = .ok (.ladd, 1) := by decide +kernel
theorem d_M_read_48 : decode b_M_read 48 = .ok (.goto 6, 3) := by decide +kernel
theorem d_M_read_51 : decode b_M_read 51 = .ok (.ldc2_w 35, 3) := by decide +kernel
theorem d_M_read_54 : decode b_M_read 54 = .ok (.lreturn, 1) := by decide +kernel
theorem d_M_numberAt_0 : decode b_M_numberAt 0 = .ok (.iconst 0, 1) := by decide +kernel
theorem d_M_numberAt_1 : decode b_M_numberAt 1 = .ok (.istore_n 2, 1) := by decide +kernel
theorem d_M_numberAt_2 : decode b_M_numberAt 2 = .ok (.iload_n 1, 1) := by decide +kernel
theorem d_M_numberAt_3 : decode b_M_numberAt 3 = .ok (.iconst 1, 1) := by decide +kernel
theorem d_M_numberAt_4 : decode b_M_numberAt 4 = .ok (.iadd, 1) := by decide +kernel
theorem d_M_numberAt_5 : decode b_M_numberAt 5 = .ok (.istore_n 3, 1) := by decide +kernel
theorem d_M_numberAt_6 : decode b_M_numberAt 6 = .ok (.iload_n 3, 1) := by decide +kernel
theorem d_M_numberAt_7 : decode b_M_numberAt 7 = .ok (.iload_n 1, 1) := by decide +kernel
theorem d_M_numberAt_8 : decode b_M_numberAt 8 = .ok (.aload_n 0, 1) := by decide +kernel
theorem d_M_numberAt_9 : decode b_M_numberAt 9 = .ok (.iload_n 1, 1) := by decide +kernel
theorem d_M_numberAt_10 : decode b_M_numberAt 10 = .ok (.invokevirtual 175, 3) := by decide +kernel
theorem d_M_numberAt_13 : decode b_M_numberAt 13 = .ok (.iadd, 1) := by decide +kernel
theorem d_M_numberAt_14 : decode b_M_numberAt 14 = .ok (.if_icmp .gt 27, 3) := by decide +kernel
theorem d_M_numberAt_17 : decode b_M_numberAt 17 = .ok (.iload_n 3, 1) := by decide +kernel
theorem d_M_numberAt_18 : decode b_M_numberAt 18 = .ok (.iload_n 1, 1) := by decide +kernel
theorem d_M_numberAt_19 : decode b_M_numberAt 19 = .ok (.iconst 4, 1) := by decide +kernel
theorem d_M_numberAt_20 : decode b_M_numberAt 20 = .ok (.iadd, 1) := by decide +kernel
theorem d_M_numberAt_21 : decode b_M_numberAt 21 = .ok (.if_icmp .gt 20, 3) := by decide +kernel
theorem d_M_numberAt_24 : decode b_M_numberAt 24 = .ok (.iload_n 2, 1) := by decide +kernel
theorem d_M_numberAt_25 : decode b_M_numberAt 25 = .ok (.bipush 8, 2) := by decide +kernel
theorem d_M_numberAt_27 : decode b_M_numberAt 27 = .ok (.ishl, 1) := by decide +kernel
theorem d_M_numberAt_28 : decode b_M_numberAt 28 = .ok (.aload_n 0, 1) := by decide +kernel
theorem d_M_numberAt_29 : decode b_M_numberAt 29 = .ok (.iload_n 3, 1) := by decide +kernel
theorem d_M_numberAt_30 : decode b_M_numberAt 30 = .ok (.invokevirtual 175, 3) := by decide +kernel
theorem d_M_numberAt_33 : decode b_M_numberAt 33 = .ok (.ior, 1) := by decide +kernel
theorem d_M_numberAt_34 : decode b_M_numberAt 34 = .ok (.istore_n 2, 1) := by decide +kernel
theorem d_M_numberAt_35 : decode b_M_numberAt 35 = .ok (.iinc 3 1, 3) := by decide +kernel
theorem d_M_numberAt_38 : decode b_M_numberAt 38 = .ok (.goto (-32), 3) := by decide +kernel
theorem d_M_numberAt_41 : decode b_M_numberAt 41 = .ok (.iload_n 2, 1) := by decide +kernel
theorem d_M_numberAt_42 : decode b_M_numberAt 42 = .ok (.ireturn, 1) := by decide +kernel
theorem d_M_byteAt_0 : decode b_M_byteAt 0 = .ok (.iload_n 1, 1) := by decide +kernel
theorem d_M_byteAt_1 : decode b_M_byteAt 1 = .ok (.aload_n 0, 1) := by decide +kernel
theorem d_M_byteAt_2 : decode b_M_byteAt 2 = .ok (.getfield 172, 3) := by decide +kernel
theorem d_M_byteAt_5 : decode b_M_byteAt 5 = .ok (.if_icmp .ge 12, 3) := by decide +kernel
theorem d_M_byteAt_8 : decode b_M_byteAt 8 = .ok (.aload_n 0, 1) := by decide +kernel
theorem d_M_byteAt_9 : decode b_M_byteAt 9 = .ok (.getfield 29, 3) := by decide +kernel
theorem d_M_byteAt_12 : decode b_M_byteAt 12 = .ok (.iload_n 1, 1) := by decide +kernel
theorem d_M_byteAt_13 : decode b_M_byteAt 13 = .ok (.iaload, 1) := by decide +kernel
theorem d_M_byteAt_14 : decode b_M_byteAt 14 = .ok (.goto 4, 3) := by decide +kernel
theorem d_M_byteAt_17 : decode b_M_byteAt 17 = .ok (.iconst 0, 1) := by decide +kernel
theorem d_M_byteAt_18 : decode b_M_byteAt 18 = .ok (.ireturn, 1) := by decide +kernel
theorem d_M_same_0 : decode b_M_same 0 = .ok (.iload_n 1, 1) := by decide +kernel
theorem d_M_same_1 : decode b_M_same 1 = .ok (.ifCond .lt 7, 3) := by decide +kernel
theorem d_M_same_4 : decode b_M_same 4 = .ok (.iload_n 2, 1) := by decide +kernel
theorem d_M_same_5 : decode b_M_same 5 = .ok (.ifCond .ge 5, 3) := by decide +kernel
theorem d_M_same_8 : decode b_M_same 8 = .ok (.iconst 0, 1) := by decide +kernel
theorem d_M_same_9 : decode b_M_same 9 = .ok (.ireturn, 1) := by decide +kernel
theorem d_M_same_10 : decode b_M_same 10 = .ok (.aload_n 0, 1) := by decide +kernel
theorem d_M_same_11 : decode b_M_same 11 = .ok (.iload_n 1, 1) := by decide +kernel
theorem d_M_same_12 : decode b_M_same 12 = .ok (.iload_n 2, 1) := by decide +kernel
theorem d_M_same_13 : decode b_M_same 13 = .ok (.invokevirtual 168, 3) := by decide +kernel
theorem d_M_same_16 : decode b_M_same 16 = .ok (.aload_n 0, 1) := by decide +kernel
theorem d_M_same_17 : decode b_M_same 17 = .ok (.getfield 155, 3) := by decide +kernel
theorem d_M_same_20 : decode b_M_same 20 = .ok (.aload_n 0, 1) := by decide +kernel
theorem d_M_same_21 : decode b_M_same 21 = .ok (.getfield 172, 3) := by decide +kernel
theorem d_M_same_24 : decode b_M_same 24 = .ok (.if_icmp .ne 7, 3) := by decide +kernel
theorem d_M_same_27 : decode b_M_same 27 = .ok (.iconst 1, 1) := by decide +kernel
theorem d_M_same_28 : decode b_M_same 28 = .ok (.goto 4, 3) := by decide +kernel
theorem d_M_same_31 : decode b_M_same 31 = .ok (.iconst 0, 1) := by decide +kernel
theorem d_M_same_32 : decode b_M_same 32 = .ok (.istore_n 3, 1) := by decide +kernel
theorem d_M_same_33 : decode b_M_same 33 = .ok (.iconst 0, 1) := by decide +kernel
theorem d_M_same_34 : decode b_M_same 34 = .ok (.istore 4, 2) := by decide +kernel
theorem d_M_same_36 : decode b_M_same 36 = .ok (.iload 4, 2) := by decide +kernel
theorem d_M_same_38 : decode b_M_same 38 = .ok (.aload_n 0, 1) := by decide +kernel
theorem d_M_same_39 : decode b_M_same 39 = .ok (.getfield 155, 3) := by decide +kernel
theorem d_M_same_42 : decode b_M_same 42 = .ok (.if_icmp .ge 36, 3) := by decide +kernel
theorem d_M_same_45 : decode b_M_same 45 = .ok (.iload_n 3, 1) := by decide +kernel
theorem d_M_same_46 : decode b_M_same 46 = .ok (.ifCond .eq 32, 3) := by decide +kernel
theorem d_M_same_49 : decode b_M_same 49 = .ok (.aload_n 0, 1) := by decide +kernel
theorem d_M_same_50 : decode b_M_same 50 = .ok (.getfield 32, 3) := by decide +kernel
theorem d_M_same_53 : decode b_M_same 53 = .ok (.iload 4, 2) := by decide +kernel
theorem d_M_same_55 : decode b_M_same 55 = .ok (.iaload, 1) := by decide +kernel
theorem d_M_same_56 : decode b_M_same 56 = .ok (.aload_n 0, 1) := by decide +kernel
theorem d_M_same_57 : decode b_M_same 57 = .ok (.getfield 29, 3) := by decide +kernel
theorem d_M_same_60 : decode b_M_same 60 = .ok (.iload 4, 2) := by decide +kernel
theorem d_M_same_62 : decode b_M_same 62 = .ok (.iaload, 1) := by decide +kernel
theorem d_M_same_63 : decode b_M_same 63 = .ok (.if_icmp .ne 7, 3) := by decide +kernel
theorem d_M_same_66 : decode b_M_same 66 = .ok (.iconst 1, 1) := by decide +kernel
theorem d_M_same_67 : decode b_M_same 67 = .ok (.goto 4, 3) := by decide +kernel
theorem d_M_same_70 : decode b_M_same 70 = .ok (.iconst 0, 1) := by decide +kernel
theorem d_M_same_71 : decode b_M_same 71 = .ok (.istore_n 3, 1) := by decide +kernel
theorem d_M_same_72 : decode b_M_same 72 = .ok (.iinc 4 1, 3) := by decide +kernel
theorem d_M_same_75 : decode b_M_same 75 = .ok (.goto (-39), 3) := by decide +kernel
theorem d_M_same_78 : decode b_M_same 78 = .ok (.iload_n 3, 1) := by decide +kernel
theorem d_M_same_79 : decode b_M_same 79 = .ok (.ireturn, 1) := by decide +kernel
