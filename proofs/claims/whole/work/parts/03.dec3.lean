theorem d_M_init_0 : decode b_M_init 0 = .ok (.aload_n 0, 1) := by decide +kernel
theorem d_M_init_1 : decode b_M_init 1 = .ok (.invokespecial 1, 3) := by decide +kernel
theorem d_M_init_4 : decode b_M_init 4 = .ok (.aload_n 0, 1) := by decide +kernel
theorem d_M_init_5 : decode b_M_init 5 = .ok (.bipush 7, 2) := by decide +kernel
theorem d_M_init_7 : decode b_M_init 7 = .ok (.newarray .int, 2) := by decide +kernel
theorem d_M_init_9 : decode b_M_init 9 = .ok (.putfield 7, 3) := by decide +kernel
theorem d_M_init_12 : decode b_M_init 12 = .ok (.aload_n 0, 1) := by decide +kernel
theorem d_M_init_13 : decode b_M_init 13 = .ok (.bipush 7, 2) := by decide +kernel
theorem d_M_init_15 : decode b_M_init 15 = .ok (.newarray .int, 2) := by decide +kernel
theorem d_M_init_17 : decode b_M_init 17 = .ok (.putfield 13, 3) := by decide +kernel
theorem d_M_init_20 : decode b_M_init 20 = .ok (.aload_n 0, 1) := by decide +kernel
theorem d_M_init_21 : decode b_M_init 21 = .ok (.bipush 7, 2) := by decide +kernel
theorem d_M_init_23 : decode b_M_init 23 = .ok (.newarray .int, 2) := by decide +kernel
theorem d_M_init_25 : decode b_M_init 25 = .ok (.putfield 16, 3) := by decide +kernel
theorem d_M_init_28 : decode b_M_init 28 = .ok (.aload_n 0, 1) := by decide +kernel
theorem d_M_init_29 : decode b_M_init 29 = .ok (.bipush 8, 2) := by decide +kernel
theorem d_M_init_31 : decode b_M_init 31 = .ok (.newarray .boolean, 2) := by decide +kernel
theorem d_M_init_33 : decode b_M_init 33 = .ok (.putfield 19, 3) := by decide +kernel
theorem d_M_init_36 : decode b_M_init 36 = .ok (.aload_n 0, 1) := by decide +kernel
theorem d_M_init_37 : decode b_M_init 37 = .ok (.bipush 8, 2) := by decide +kernel
theorem d_M_init_39 : decode b_M_init 39 = .ok (.newarray .boolean, 2) := by decide +kernel
theorem d_M_init_41 : decode b_M_init 41 = .ok (.putfield 23, 3) := by decide +kernel
theorem d_M_init_44 : decode b_M_init 44 = .ok (.aload_n 0, 1) := by decide +kernel
theorem d_M_init_45 : decode b_M_init 45 = .ok (.bipush 8, 2) := by decide +kernel
theorem d_M_init_47 : decode b_M_init 47 = .ok (.newarray .boolean, 2) := by decide +kernel
theorem d_M_init_49 : decode b_M_init 49 = .ok (.putfield 26, 3) := by decide +kernel
theorem d_M_init_52 : decode b_M_init 52 = .ok (.aload_n 0, 1) := by decide +kernel
theorem d_M_init_53 : decode b_M_init 53 = .ok (.bipush 8, 2) := by decide +kernel
theorem d_M_init_55 : decode b_M_init 55 = .ok (.newarray .int, 2) := by decide +kernel
theorem d_M_init_57 : decode b_M_init 57 = .ok (.putfield 29, 3) := by decide +kernel
theorem d_M_init_60 : decode b_M_init 60 = .ok (.aload_n 0, 1) := by decide +kernel
theorem d_M_init_61 : decode b_M_init 61 = .ok (.bipush 8, 2) := by decide +kernel
theorem d_M_init_63 : decode b_M_init 63 = .ok (.newarray .int, 2) := by decide +kernel
theorem d_M_init_65 : decode b_M_init 65 = .ok (.putfield 32, 3) := by decide +kernel
theorem d_M_init_68 : decode b_M_init 68 = .ok (.aload_n 0, 1) := by decide +kernel
theorem d_M_init_69 : decode b_M_init 69 = .ok (.bipush 8, 2) := by decide +kernel
theorem d_M_init_71 : decode b_M_init 71 = .ok (.newarray .boolean, 2) := by decide +kernel
theorem d_M_init_73 : decode b_M_init 73 = .ok (.putfield 35, 3) := by decide +kernel
theorem d_M_init_76 : decode b_M_init 76 = .ok (.aload_n 0, 1) := by decide +kernel
theorem d_M_init_77 : decode b_M_init 77 = .ok (.bipush 8, 2) := by decide +kernel
theorem d_M_init_79 : decode b_M_init 79 = .ok (.newarray .int, 2) := by decide +kernel
theorem d_M_init_81 : decode b_M_init 81 = .ok (.putfield 38, 3) := by decide +kernel
theorem d_M_init_84 : decode b_M_init 84 = .ok (.aload_n 0, 1) := by decide +kernel
theorem d_M_init_85 : decode b_M_init 85 = .ok (.bipush 8, 2) := by decide +kernel
theorem d_M_init_87 : decode b_M_init 87 = .ok (.newarray .int, 2) := by decide +kernel
theorem d_M_init_89 : decode b_M_init 89 = .ok (.putfield 41, 3) := by decide +kernel
theorem d_M_init_92 : decode b_M_init 92 = .ok (.aload_n 0, 1) := by decide +kernel
theorem d_M_init_93 : decode b_M_init 93 = .ok (.bipush 7, 2) := by decide +kernel
theorem d_M_init_95 : decode b_M_init 95 = .ok (.newarray .int, 2) := by decide +kernel
theorem d_M_init_97 : decode b_M_init 97 = .ok (.putfield 44, 3) := by decide +kernel
theorem d_M_init_100 : decode b_M_init 100 = .ok (.aload_n 0, 1) := by decide +kernel
theorem d_M_init_101 : decode b_M_init 101 = .ok (.bipush 7, 2) := by decide +kernel
theorem d_M_init_103 : decode b_M_init 103 = .ok (.newarray .int, 2) := by decide +kernel
theorem d_M_init_105 : decode b_M_init 105 = .ok (.putfield 47, 3) := by decide +kernel
theorem d_M_init_108 : decode b_M_init 108 = .ok (.iload_n 1, 1) := by decide +kernel
theorem d_M_init_109 : decode b_M_init 109 = .ok (.invokestatic 50, 3) := by decide +kernel
theorem d_M_init_112 : decode b_M_init 112 = .ok (.ifCond .eq 71, 3) := by decide +kernel
theorem d_M_init_115 : decode b_M_init 115 = .ok (.iload_n 2, 1) := by decide +kernel
theorem d_M_init_116 : decode b_M_init 116 = .ok (.invokestatic 50, 3) := by decide +kernel
theorem d_M_init_119 : decode b_M_init 119 = .ok (.ifCond .eq 64, 3) := by decide +kernel
theorem d_M_init_122 : decode b_M_init 122 = .ok (.iload_n 1, 1) := by decide +kernel
theorem d_M_init_123 : decode b_M_init 123 = .ok (.iconst 1, 1) := by decide +kernel
theorem d_M_init_124 : decode b_M_init 124 = .ok (.isub, 1) := by decide +kernel
theorem d_M_init_125 : decode b_M_init 125 = .ok (.iload_n 2, 1) := by decide +kernel
theorem d_M_init_126 : decode b_M_init 126 = .ok (.irem, 1) := by decide +kernel
theorem d_M_init_127 : decode b_M_init 127 = .ok (.ifCond .ne 56, 3) := by decide +kernel
theorem d_M_init_130 : decode b_M_init 130 = .ok (.iload_n 3, 1) := by decide +kernel
theorem d_M_init_131 : decode b_M_init 131 = .ok (.iconst 2, 1) := by decide +kernel
theorem d_M_init_132 : decode b_M_init 132 = .ok (.if_icmp .lt 51, 3) := by decide +kernel
theorem d_M_init_135 : decode b_M_init 135 = .ok (.iload_n 3, 1) := by decide +kernel
theorem d_M_init_136 : decode b_M_init 136 = .ok (.iload_n 1, 1) := by decide +kernel
theorem d_M_init_137 : decode b_M_init 137 = .ok (.if_icmp .ge 46, 3) := by decide +kernel
theorem d_M_init_140 : decode b_M_init 140 = .ok (.iload 4, 2) := by decide +kernel
theorem d_M_init_142 : decode b_M_init 142 = .ok (.iconst 2, 1) := by decide +kernel
theorem d_M_init_143 : decode b_M_init 143 = .ok (.if_icmp .lt 40, 3) := by decide +kernel
theorem d_M_init_146 : decode b_M_init 146 = .ok (.iload 4, 2) := by decide +kernel
theorem d_M_init_148 : decode b_M_init 148 = .ok (.iload_n 1, 1) := by decide +kernel
theorem d_M_init_149 : decode b_M_init 149 = .ok (.if_icmp .ge 34, 3) := by decide +kernel
theorem d_M_init_152 : decode b_M_init 152 = .ok (.iload_n 3, 1) := by decide +kernel
theorem d_M_init_153 : decode b_M_init 153 = .ok (.iload 4, 2) := by decide +kernel
theorem d_M_init_155 : decode b_M_init 155 = .ok (.if_icmp .eq 28, 3) := by decide +kernel
theorem d_M_init_158 : decode b_M_init 158 = .ok (.iload_n 3, 1) := by decide +kernel
theorem d_M_init_159 : decode b_M_init 159 = .ok (.iload_n 2, 1) := by decide +kernel
theorem d_M_init_160 : decode b_M_init 160 = .ok (.iload_n 1, 1) := by decide +kernel
theorem d_M_init_161 : decode b_M_init 161 = .ok (.invokestatic 54, 3) := by decide +kernel
theorem d_M_init_164 : decode b_M_init 164 = .ok (.iconst 1, 1) := by decide +kernel
theorem d_M_init_165 : decode b_M_init 165 = .ok (.if_icmp .ne 18, 3) := by decide +kernel
theorem d_M_init_168 : decode b_M_init 168 = .ok (.iload 4, 2) := by decide +kernel
theorem d_M_init_170 : decode b_M_init 170 = .ok (.iload_n 2, 1) := by decide +kernel
theorem d_M_init_171 : decode b_M_init 171 = .ok (.iload_n 1, 1) := by decide +kernel
theorem d_M_init_172 : decode b_M_init 172 = .ok (.invokestatic 54, 3) := by decide +kernel
theorem d_M_init_175 : decode b_M_init 175 = .ok (.iconst 1, 1) := by decide +kernel
theorem d_M_init_176 : decode b_M_init 176 = .ok (.if_icmp .ne 7, 3) := by decide +kernel
theorem d_M_init_179 : decode b_M_init 179 = .ok (.iconst 1, 1) := by decide +kernel
theorem d_M_init_180 : decode b_M_init 180 = .ok (.goto 4, 3) := by decide +kernel
theorem d_M_init_183 : decode b_M_init 183 = .ok (.iconst 0, 1) := by decide +kernel
theorem d_M_init_184 : decode b_M_init 184 = .ok (.istore 5, 2) := by decide +kernel
theorem d_M_init_186 : decode b_M_init 186 = .ok (.aload_n 0, 1) := by decide +kernel
theorem d_M_init_187 : decode b_M_init 187 = .ok (.iload 5, 2) := by decide +kernel
theorem d_M_init_189 : decode b_M_init 189 = .ok (.ifCond .eq 7, 3) := by decide +kernel
theorem d_M_init_192 : decode b_M_init 192 = .ok (.iload_n 1, 1) := by decide +kernel
theorem d_M_init_193 : decode b_M_init 193 = .ok (.goto 6, 3) := by decide +kernel
theorem d_M_init_196 : decode b_M_init 196 = .ok (.sipush 2039, 3) := by decide +kernel
theorem d_M_init_199 : decode b_M_init 199 = .ok (.putfield 58, 3) := by decide +kernel
theorem d_M_init_202 : decode b_M_init 202 = .ok (.aload_n 0, 1) := by decide +kernel
theorem d_M_init_203 : decode b_M_init 203 = .ok (.iload 5, 2) := by decide +kernel
theorem d_M_init_205 : decode b_M_init 205 = .ok (.ifCond .eq 7, 3) := by decide +kernel
theorem d_M_init_208 : decode b_M_init 208 = .ok (.iload_n 2, 1) := by decide +kernel
theorem d_M_init_209 : decode b_M_init 209 = .ok (.goto 6, 3) := by decide +kernel
theorem d_M_init_212 : decode b_M_init 212 = .ok (.sipush 1019, 3) := by decide +kernel
theorem d_M_init_215 : decode b_M_init 215 = .ok (.putfield 62, 3) := by decide +kernel
theorem d_M_init_218 : decode b_M_init 218 = .ok (.aload_n 0, 1) := by decide +kernel
theorem d_M_init_219 : decode b_M_init 219 = .ok (.iload 5, 2) := by decide +kernel
theorem d_M_init_221 : decode b_M_init 221 = .ok (.ifCond .eq 7, 3) := by decide +kernel
theorem d_M_init_224 : decode b_M_init 224 = .ok (.iload_n 3, 1) := by decide +kernel
theorem d_M_init_225 : decode b_M_init 225 = .ok (.goto 4, 3) := by decide +kernel
theorem d_M_init_228 : decode b_M_init 228 = .ok (.iconst 4, 1) := by decide +kernel
theorem d_M_init_229 : decode b_M_init 229 = .ok (.putfield 65, 3) := by decide +kernel
theorem d_M_init_232 : decode b_M_init 232 = .ok (.aload_n 0, 1) := by decide +kernel
theorem d_M_init_233 : decode b_M_init 233 = .ok (.iload 5, 2) := by decide +kernel
theorem d_M_init_235 : decode b_M_init 235 = .ok (.ifCond .eq 8, 3) := by decide +kernel
theorem d_M_init_238 : decode b_M_init 238 = .ok (.iload 4, 2) := by decide +kernel
theorem d_M_init_240 : decode b_M_init 240 = .ok (.goto 5, 3) := by decide +kernel
theorem d_M_init_243 : decode b_M_init 243 = .ok (.bipush 9, 2) := by decide +kernel
theorem d_M_init_245 : decode b_M_init 245 = .ok (.putfield 68, 3) := by decide +kernel
theorem d_M_init_248 : decode b_M_init 248 = .ok (.return_, 1) := by decide +kernel
theorem d_M_prime_0 : decode b_M_prime 0 = .ok (.iload_n 0, 1) := by decide +kernel
theorem d_M_prime_1 : decode b_M_prime 1 = .ok (.iconst 2, 1) := by decide +kernel
theorem d_M_prime_2 : decode b_M_prime 2 = .ok (.if_icmp .ge 5, 3) := by decide +kernel
theorem d_M_prime_5 : decode b_M_prime 5 = .ok (.iconst 0, 1) := by decide +kernel
theorem d_M_prime_6 : decode b_M_prime 6 = .ok (.ireturn, 1) := by decide +kernel
theorem d_M_prime_7 : decode b_M_prime 7 = .ok (.iconst 2, 1) := by decide +kernel
theorem d_M_prime_8 : decode b_M_prime 8 = .ok (.istore_n 1, 1) := by decide +kernel
theorem d_M_prime_9 : decode b_M_prime 9 = .ok (.iload_n 1, 1) := by decide +kernel
theorem d_M_prime_10 : decode b_M_prime 10 = .ok (.ldc 71, 2) := by decide +kernel
theorem d_M_prime_12 : decode b_M_prime 12 = .ok (.if_icmp .gt 24, 3) := by decide +kernel
theorem d_M_prime_15 : decode b_M_prime 15 = .ok (.iload_n 1, 1) := by decide +kernel
theorem d_M_prime_16 : decode b_M_prime 16 = .ok (.iload_n 1, 1) := by decide +kernel
theorem d_M_prime_17 : decode b_M_prime 17 = .ok (.imul, 1) := by decide +kernel
theorem d_M_prime_18 : decode b_M_prime 18 = .ok (.iload_n 0, 1) := by decide +kernel
theorem d_M_prime_19 : decode b_M_prime 19 = .ok (.if_icmp .gt 17, 3) := by decide +kernel
theorem d_M_prime_22 : decode b_M_prime 22 = .ok (.iload_n 0, 1) := by decide +kernel
theorem d_M_prime_23 : decode b_M_prime 23 = .ok (.iload_n 1, 1) := by decide +kernel
theorem d_M_prime_24 : decode b_M_prime 24 = .ok (.irem, 1) := by decide +kernel
theorem d_M_prime_25 : decode b_M_prime 25 = .ok (.ifCond .ne 5, 3) := by decide +kernel
theorem d_M_prime_28 : decode b_M_prime 28 = .ok (.iconst 0, 1) := by decide +kernel
theorem d_M_prime_29 : decode b_M_prime 29 = .ok (.ireturn, 1) := by decide +kernel
theorem d_M_prime_30 : decode b_M_prime 30 = .ok (.iinc 1 1, 3) := by decide +kernel
theorem d_M_prime_33 : decode b_M_prime 33 = .ok (.goto (-24), 3) := by decide +kernel
theorem d_M_prime_36 : decode b_M_prime 36 = .ok (.iconst 1, 1) := by decide +kernel
theorem d_M_prime_37 : decode b_M_prime 37 = .ok (.ireturn, 1) := by decide +kernel
theorem d_M_times_0 : decode b_M_times 0 = .ok (.iload_n 0, 1) := by decide +kernel
theorem d_M_times_1 : decode b_M_times 1 = .ok (.i2l, 1) := by decide +kernel
theorem d_M_times_2 : decode b_M_times 2 = .ok (.iload_n 1, 1) := by decide +kernel
theorem d_M_times_3 : decode b_M_times 3 = .ok (.i2l, 1) := by decide +kernel
theorem d_M_times_4 : decode b_M_times 4 = .ok (.lmul, 1) := by decide +kernel
theorem d_M_times_5 : decode b_M_times 5 = .ok (.iload_n 2, 1) := by decide +kernel
theorem d_M_times_6 : decode b_M_times 6 = .ok (.i2l, 1) := by decide +kernel
theorem d_M_times_7 : decode b_M_times 7 = .ok (.lrem, 1) := by decide +kernel
theorem d_M_times_8 : decode b_M_times 8 = .ok (.l2i, 1) := by decide +kernel
theorem d_M_times_9 : decode b_M_times 9 = .ok (.ireturn, 1) := by decide +kernel
theorem d_M_power_0 : decode b_M_power 0 = .ok (.iconst 1, 1) := by decide +kernel
theorem d_M_power_1 : decode b_M_power 1 = .ok (.iload_n 2, 1) := by decide +kernel
theorem d_M_power_2 : decode b_M_power 2 = .ok (.irem, 1) := by decide +kernel
theorem d_M_power_3 : decode b_M_power 3 = .ok (.istore_n 3, 1) := by decide +kernel
theorem d_M_power_4 : decode b_M_power 4 = .ok (.iload_n 0, 1) := by decide +kernel
theorem d_M_power_5 : decode b_M_power 5 = .ok (.iload_n 2, 1) := by decide +kernel
theorem d_M_power_6 : decode b_M_power 6 = .ok (.irem, 1) := by decide +kernel
theorem d_M_power_7 : decode b_M_power 7 = .ok (.istore 4, 2) := by decide +kernel
theorem d_M_power_9 : decode b_M_power 9 = .ok (.iload_n 1, 1) := by decide +kernel
theorem d_M_power_10 : decode b_M_power 10 = .ok (.istore 5, 2) := by decide +kernel
theorem d_M_power_12 : decode b_M_power 12 = .ok (.iload 5, 2) := by decide +kernel
theorem d_M_power_14 : decode b_M_power 14 = .ok (.ifCond .le 42, 3) := by decide +kernel
theorem d_M_power_17 : decode b_M_power 17 = .ok (.iload 5, 2) := by decide +kernel
theorem d_M_power_19 : decode b_M_power 19 = .ok (.iconst 2, 1) := by decide +kernel
theorem d_M_power_20 : decode b_M_power 20 = .ok (.irem, 1) := by decide +kernel
theorem d_M_power_21 : decode b_M_power 21 = .ok (.iconst 1, 1) := by decide +kernel
theorem d_M_power_22 : decode b_M_power 22 = .ok (.if_icmp .ne 13, 3) := by decide +kernel
theorem d_M_power_25 : decode b_M_power 25 = .ok (.iload_n 3, 1) := by decide +kernel
theorem d_M_power_26 : decode b_M_power 26 = .ok (.iload 4, 2) := by decide +kernel
theorem d_M_power_28 : decode b_M_power 28 = .ok (.iload_n 2, 1) := by decide +kernel
theorem d_M_power_29 : decode b_M_power 29 = .ok (.invokestatic 72, 3) := by decide +kernel
theorem d_M_power_32 : decode b_M_power 32 = .ok (.goto 4, 3) := by decide +kernel
theorem d_M_power_35 : decode b_M_power 35 = .ok (.iload_n 3, 1) := by decide +kernel
theorem d_M_power_36 : decode b_M_power 36 = .ok (.istore_n 3, 1) := by decide +kernel
theorem d_M_power_37 : decode b_M_power 37 = .ok (.iload 4, 2) := by decide +kernel
theorem d_M_power_39 : decode b_M_power 39 = .ok (.iload 4, 2) := by decide +kernel
theorem d_M_power_41 : decode b_M_power 41 = .ok (.iload_n 2, 1) := by decide +kernel
theorem d_M_power_42 : decode b_M_power 42 = .ok (.invokestatic 72, 3) := by decide +kernel
theorem d_M_power_45 : decode b_M_power 45 = .ok (.istore 4, 2) := by decide +kernel
theorem d_M_power_47 : decode b_M_power 47 = .ok (.iload 5, 2) := by decide +kernel
theorem d_M_power_49 : decode b_M_power 49 = .ok (.iconst 2, 1) := by decide +kernel
theorem d_M_power_50 : decode b_M_power 50 = .ok (.idiv, 1) := by decide +kernel
theorem d_M_power_51 : decode b_M_power 51 = .ok (.istore 5, 2) := by decide +kernel
theorem d_M_power_53 : decode b_M_power 53 = .ok (.goto (-41), 3) := by decide +kernel
theorem d_M_power_56 : decode b_M_power 56 = .ok (.iload_n 3, 1) := by decide +kernel
theorem d_M_power_57 : decode b_M_power 57 = .ok (.ireturn, 1) := by decide +kernel
theorem d_M_reduced_0 : decode b_M_reduced 0 = .ok (.iload_n 1, 1) := by decide +kernel
theorem d_M_reduced_1 : decode b_M_reduced 1 = .ok (.aload_n 0, 1) := by decide +kernel
theorem d_M_reduced_2 : decode b_M_reduced 2 = .ok (.getfield 62, 3) := by decide +kernel
theorem d_M_reduced_5 : decode b_M_reduced 5 = .ok (.irem, 1) := by decide +kernel
theorem d_M_reduced_6 : decode b_M_reduced 6 = .ok (.istore_n 2, 1) := by decide +kernel
theorem d_M_reduced_7 : decode b_M_reduced 7 = .ok (.iload_n 2, 1) := by decide +kernel
theorem d_M_reduced_8 : decode b_M_reduced 8 = .ok (.ifCond .ge 12, 3) := by decide +kernel
theorem d_M_reduced_11 : decode b_M_reduced 11 = .ok (.iload_n 2, 1) := by decide +kernel
theorem d_M_reduced_12 : decode b_M_reduced 12 = .ok (.aload_n 0, 1) := by decide +kernel
theorem d_M_reduced_13 : decode b_M_reduced 13 = .ok (.getfield 62, 3) := by decide +kernel
theorem d_M_reduced_16 : decode b_M_reduced 16 = .ok (.iadd, 1) := by decide +kernel
theorem d_M_reduced_17 : decode b_M_reduced 17 = .ok (.goto 4, 3) := by decide +kernel
theorem d_M_reduced_20 : decode b_M_reduced 20 = .ok (.iload_n 2, 1) := by decide +kernel
theorem d_M_reduced_21 : decode b_M_reduced 21 = .ok (.ireturn, 1) := by decide +kernel
theorem d_M_minus_0 : decode b_M_minus 0 = .ok (.iload_n 1, 1) := by decide +kernel
theorem d_M_minus_1 : decode b_M_minus 1 = .ok (.iload_n 2, 1) := by decide +kernel
theorem d_M_minus_2 : decode b_M_minus 2 = .ok (.if_icmp .lt 9, 3) := by decide +kernel
theorem d_M_minus_5 : decode b_M_minus 5 = .ok (.iload_n 1, 1) := by decide +kernel
theorem d_M_minus_6 : decode b_M_minus 6 = .ok (.iload_n 2, 1) := by decide +kernel
theorem d_M_minus_7 : decode b_M_minus 7 = .ok (.isub, 1) := by decide +kernel
theorem d_M_minus_8 : decode b_M_minus 8 = .ok (.goto 11, 3) := by decide +kernel
theorem d_M_minus_11 : decode b_M_minus 11 = .ok (.iload_n 1, 1) := by decide +kernel
theorem d_M_minus_12 : decode b_M_minus 12 = .ok (.iload_n 2, 1) := by decide +kernel
theorem d_M_minus_13 : decode b_M_minus 13 = .ok (.isub, 1) := by decide +kernel
theorem d_M_minus_14 : decode b_M_minus 14 = .ok (.aload_n 0, 1) := by decide +kernel
theorem d_M_minus_15 : decode b_M_minus 15 = .ok (.getfield 62, 3) := by decide +kernel
theorem d_M_minus_18 : decode b_M_minus 18 = .ok (.iadd, 1) := by decide +kernel
theorem d_M_minus_19 : decode b_M_minus 19 = .ok (.ireturn, 1) := by decide +kernel
theorem d_M_over_0 : decode b_M_over 0 = .ok (.iload_n 1, 1) := by decide +kernel
theorem d_M_over_1 : decode b_M_over 1 = .ok (.iload_n 2, 1) := by decide +kernel
theorem d_M_over_2 : decode b_M_over 2 = .ok (.aload_n 0, 1) := by decide +kernel
theorem d_M_over_3 : decode b_M_over 3 = .ok (.getfield 62, 3) := by decide +kernel
theorem d_M_over_6 : decode b_M_over 6 = .ok (.iconst 2, 1) := by decide +kernel
theorem d_M_over_7 : decode b_M_over 7 = .ok (.isub, 1) := by decide +kernel
theorem d_M_over_8 : decode b_M_over 8 = .ok (.aload_n 0, 1) := by decide +kernel
theorem d_M_over_9 : decode b_M_over 9 = .ok (.getfield 62, 3) := by decide +kernel
theorem d_M_over_12 : decode b_M_over 12 = .ok (.invokestatic 54, 3) := by decide +kernel
theorem d_M_over_15 : decode b_M_over 15 = .ok (.aload_n 0, 1) := by decide +kernel
theorem d_M_over_16 : decode b_M_over 16 = .ok (.getfield 62, 3) := by decide +kernel
theorem d_M_over_19 : decode b_M_over 19 = .ok (.invokestatic 72, 3) := by decide +kernel
theorem d_M_over_22 : decode b_M_over 22 = .ok (.ireturn, 1) := by decide +kernel
theorem d_M_at_0 : decode b_M_at 0 = .ok (.lconst 0, 1) := by decide +kernel
theorem d_M_at_1 : decode b_M_at 1 = .ok (.lstore_n 3, 1) := by decide +kernel
theorem d_M_at_2 : decode b_M_at 2 = .ok (.iconst 1, 1) := by decide +kernel
theorem d_M_at_3 : decode b_M_at 3 = .ok (.aload_n 0, 1) := by decide +kernel
theorem d_M_at_4 : decode b_M_at 4 = .ok (.getfield 62, 3) := by decide +kernel
theorem d_M_at_7 : decode b_M_at 7 = .ok (.irem, 1) := by decide +kernel
theorem d_M_at_8 : decode b_M_at 8 = .ok (.istore 5, 2) := by decide +kernel
theorem d_M_at_10 : decode b_M_at 10 = .ok (.iconst 0, 1) := by decide +kernel
theorem d_M_at_11 : decode b_M_at 11 = .ok (.istore 6, 2) := by decide +kernel
theorem d_M_at_13 : decode b_M_at 13 = .ok (.iload 6, 2) := by decide +kernel
theorem d_M_at_15 : decode b_M_at 15 = .ok (.aload_n 0, 1) := by decide +kernel
theorem d_M_at_16 : decode b_M_at 16 = .ok (.getfield 75, 3) := by decide +kernel
theorem d_M_at_19 : decode b_M_at 19 = .ok (.if_icmp .ge 49, 3) := by decide +kernel
theorem d_M_at_22 : decode b_M_at 22 = .ok (.lload_n 3, 1) := by decide +kernel
theorem d_M_at_23 : decode b_M_at 23 = .ok (.aload_n 1, 1) := by decide +kernel
theorem d_M_at_24 : decode b_M_at 24 = .ok (.iload 6, 2) := by decide +kernel
theorem d_M_at_26 : decode b_M_at 26 = .ok (.iaload, 1) := by decide +kernel
theorem d_M_at_27 : decode b_M_at 27 = .ok (.iload 5, 2) := by decide +kernel
theorem d_M_at_29 : decode b_M_at 29 = .ok (.aload_n 0, 1) := by decide +kernel
theorem d_M_at_30 : decode b_M_at 30 = .ok (.getfield 62, 3) := by decide +kernel
theorem d_M_at_33 : decode b_M_at 33 = .ok (.invokestatic 72, 3) := by decide +kernel
theorem d_M_at_36 : decode b_M_at 36 = .ok (.i2l, 1) := by decide +kernel
theorem d_M_at_37 : decode b_M_at 37 = .ok (.ladd, 1) := by decide +kernel
theorem d_M_at_38 : decode b_M_at 38 = .ok (.aload_n 0, 1) := by decide +kernel
theorem d_M_at_39 : decode b_M_at 39 = .ok (.getfield 62, 3) := by decide +kernel
theorem d_M_at_42 : decode b_M_at 42 = .ok (.i2l, 1) := by decide +kernel
theorem d_M_at_43 : decode b_M_at 43 = .ok (.lrem, 1) := by decide +kernel
theorem d_M_at_44 : decode b_M_at 44 = .ok (.lstore_n 3, 1) := by decide +kernel
theorem d_M_at_45 : decode b_M_at 45 = .ok (.iload 5, 2) := by decide +kernel
theorem d_M_at_47 : decode b_M_at 47 = .ok (.iload_n 2, 1) := by decide +kernel
theorem d_M_at_48 : decode b_M_at 48 = .ok (.aload_n 0, 1) := by decide +kernel
theorem d_M_at_49 : decode b_M_at 49 = .ok (.getfield 62, 3) := by decide +kernel
theorem d_M_at_52 : decode b_M_at 52 = .ok (.irem, 1) := by decide +kernel
theorem d_M_at_53 : decode b_M_at 53 = .ok (.aload_n 0, 1) := by decide +kernel
theorem d_M_at_54 : decode b_M_at 54 = .ok (.getfield 62, 3) := by decide +kernel
theorem d_M_at_57 : decode b_M_at 57 = .ok (.invokestatic 72, 3) := by decide +kernel
theorem d_M_at_60 : decode b_M_at 60 = .ok (.istore 5, 2) := by decide +kernel
theorem d_M_at_62 : decode b_M_at 62 = .ok (.iinc 6 1, 3) := by decide +kernel
theorem d_M_at_65 : decode b_M_at 65 = .ok (.goto (-52), 3) := by decide +kernel
theorem d_M_at_68 : decode b_M_at 68 = .ok (.lload_n 3, 1) := by decide +kernel
theorem d_M_at_69 : decode b_M_at 69 = .ok (.l2i, 1) := by decide +kernel
theorem d_M_at_70 : decode b_M_at 70 = .ok (.ireturn, 1) := by decide +kernel
theorem d_M_paired_0 : decode b_M_paired 0 = .ok (.aload_n 0, 1) := by decide +kernel
theorem d_M_paired_1 : decode b_M_paired 1 = .ok (.getfield 65, 3) := by decide +kernel
theorem d_M_paired_4 : decode b_M_paired 4 = .ok (.iload_n 1, 1) := by decide +kernel
theorem d_M_paired_5 : decode b_M_paired 5 = .ok (.aload_n 0, 1) := by decide +kernel
theorem d_M_paired_6 : decode b_M_paired 6 = .ok (.getfield 58, 3) := by decide +kernel
theorem d_M_paired_9 : decode b_M_paired 9 = .ok (.invokestatic 54, 3) := by decide +kernel
theorem d_M_paired_12 : decode b_M_paired 12 = .ok (.aload_n 0, 1) := by decide +kernel
theorem d_M_paired_13 : decode b_M_paired 13 = .ok (.getfield 68, 3) := by decide +kernel
theorem d_M_paired_16 : decode b_M_paired 16 = .ok (.iload_n 2, 1) := by decide +kernel
theorem d_M_paired_17 : decode b_M_paired 17 = .ok (.aload_n 0, 1) := by decide +kernel
theorem d_M_paired_18 : decode b_M_paired 18 = .ok (.getfield 58, 3) := by decide +kernel
theorem d_M_paired_21 : decode b_M_paired 21 = .ok (.invokestatic 54, 3) := by decide +kernel
theorem d_M_paired_24 : decode b_M_paired 24 = .ok (.aload_n 0, 1) := by decide +kernel
theorem d_M_paired_25 : decode b_M_paired 25 = .ok (.getfield 58, 3) := by decide +kernel
theorem d_M_paired_28 : decode b_M_paired 28 = .ok (.invokestatic 72, 3) := by decide +kernel
theorem d_M_paired_31 : decode b_M_paired 31 = .ok (.ireturn, 1) := by decide +kernel
theorem d_M_fit_0 : decode b_M_fit 0 = .ok (.iconst 1, 1) := by decide +kernel
theorem d_M_fit_1 : decode b_M_fit 1 = .ok (.istore 4, 2) := by decide +kernel
theorem d_M_fit_3 : decode b_M_fit 3 = .ok (.iconst 1, 1) := by decide +kernel
theorem d_M_fit_4 : decode b_M_fit 4 = .ok (.istore 5, 2) := by decide +kernel
theorem d_M_fit_6 : decode b_M_fit 6 = .ok (.iconst 0, 1) := by decide +kernel
theorem d_M_fit_7 : decode b_M_fit 7 = .ok (.istore 6, 2) := by decide +kernel
theorem d_M_fit_9 : decode b_M_fit 9 = .ok (.iload 6, 2) := by decide +kernel
theorem d_M_fit_11 : decode b_M_fit 11 = .ok (.aload_n 0, 1) := by decide +kernel
theorem d_M_fit_12 : decode b_M_fit 12 = .ok (.getfield 75, 3) := by decide +kernel
theorem d_M_fit_15 : decode b_M_fit 15 = .ok (.if_icmp .ge 42, 3) := by decide +kernel
theorem d_M_fit_18 : decode b_M_fit 18 = .ok (.iload 4, 2) := by decide +kernel
theorem d_M_fit_20 : decode b_M_fit 20 = .ok (.aload_n 0, 1) := by decide +kernel
theorem d_M_fit_21 : decode b_M_fit 21 = .ok (.getfield 16, 3) := by decide +kernel
theorem d_M_fit_24 : decode b_M_fit 24 = .ok (.iload 6, 2) := by decide +kernel
theorem d_M_fit_26 : decode b_M_fit 26 = .ok (.iaload, 1) := by decide +kernel
theorem d_M_fit_27 : decode b_M_fit 27 = .ok (.iload 5, 2) := by decide +kernel
theorem d_M_fit_29 : decode b_M_fit 29 = .ok (.aload_n 0, 1) := by decide +kernel
theorem d_M_fit_30 : decode b_M_fit 30 = .ok (.getfield 58, 3) := by decide +kernel
theorem d_M_fit_33 : decode b_M_fit 33 = .ok (.invokestatic 54, 3) := by decide +kernel
theorem d_M_fit_36 : decode b_M_fit 36 = .ok (.aload_n 0, 1) := by decide +kernel
theorem d_M_fit_37 : decode b_M_fit 37 = .ok (.getfield 58, 3) := by decide +kernel
theorem d_M_fit_40 : decode b_M_fit 40 = .ok (.invokestatic 72, 3) := by decide +kernel
theorem d_M_fit_43 : decode b_M_fit 43 = .ok (.istore 4, 2) := by decide +kernel
theorem d_M_fit_45 : decode b_M_fit 45 = .ok (.iload 5, 2) := by decide +kernel
theorem d_M_fit_47 : decode b_M_fit 47 = .ok (.iload_n 1, 1) := by decide +kernel
theorem d_M_fit_48 : decode b_M_fit 48 = .ok (.imul, 1) := by decide +kernel
theorem d_M_fit_49 : decode b_M_fit 49 = .ok (.istore 5, 2) := by decide +kernel
theorem d_M_fit_51 : decode b_M_fit 51 = .ok (.iinc 6 1, 3) := by decide +kernel
theorem d_M_fit_54 : decode b_M_fit 54 = .ok (.goto (-45), 3) := by decide +kernel
theorem d_M_fit_57 : decode b_M_fit 57 = .ok (.aload_n 0, 1) := by decide +kernel
theorem d_M_fit_58 : decode b_M_fit 58 = .ok (.iload_n 2, 1) := by decide +kernel
theorem d_M_fit_59 : decode b_M_fit 59 = .ok (.iload_n 3, 1) := by decide +kernel
theorem d_M_fit_60 : decode b_M_fit 60 = .ok (.invokevirtual 78, 3) := by decide +kernel
theorem d_M_fit_63 : decode b_M_fit 63 = .ok (.iload 4, 2) := by decide +kernel
theorem d_M_fit_65 : decode b_M_fit 65 = .ok (.if_icmp .ne 7, 3) := by decide +kernel
theorem d_M_fit_68 : decode b_M_fit 68 = .ok (.iconst 1, 1) := by decide +kernel
theorem d_M_fit_69 : decode b_M_fit 69 = .ok (.goto 4, 3) := by decide +kernel
theorem d_M_fit_72 : decode b_M_fit 72 = .ok (.iconst 0, 1) := by decide +kernel
theorem d_M_fit_73 : decode b_M_fit 73 = .ok (.ireturn, 1) := by decide +kernel
theorem d_M_isOne_0 : decode b_M_isOne 0 = .ok (.iload_n 1, 1) := by decide +kernel
theorem d_M_isOne_1 : decode b_M_isOne 1 = .ok (.iconst 1, 1) := by decide +kernel
theorem d_M_isOne_2 : decode b_M_isOne 2 = .ok (.if_icmp .lt 15, 3) := by decide +kernel
theorem d_M_isOne_5 : decode b_M_isOne 5 = .ok (.iload_n 1, 1) := by decide +kernel
theorem d_M_isOne_6 : decode b_M_isOne 6 = .ok (.aload_n 0, 1) := by decide +kernel
theorem d_M_isOne_7 : decode b_M_isOne 7 = .ok (.getfield 82, 3) := by decide +kernel
theorem d_M_isOne_10 : decode b_M_isOne 10 = .ok (.if_icmp .gt 7, 3) := by decide +kernel
theorem d_M_isOne_13 : decode b_M_isOne 13 = .ok (.iconst 1, 1) := by decide +kernel
theorem d_M_isOne_14 : decode b_M_isOne 14 = .ok (.goto 4, 3) := by decide +kernel
theorem d_M_isOne_17 : decode b_M_isOne 17 = .ok (.iconst 0, 1) := by decide +kernel
theorem d_M_isOne_18 : decode b_M_isOne 18 = .ok (.ireturn, 1) := by decide +kernel
theorem d_M_refuses_0 : decode b_M_refuses 0 = .ok (.aload_n 0, 1) := by decide +kernel
theorem d_M_refuses_1 : decode b_M_refuses 1 = .ok (.iload_n 1, 1) := by decide +kernel
theorem d_M_refuses_2 : decode b_M_refuses 2 = .ok (.ifCond .eq 7, 3) := by decide +kernel
theorem d_M_refuses_5 : decode b_M_refuses 5 = .ok (.iconst 1, 1) := by decide +kernel
theorem d_M_refuses_6 : decode b_M_refuses 6 = .ok (.goto 12, 3) := by decide +kernel
theorem d_M_refuses_9 : decode b_M_refuses 9 = .ok (.iload_n 2, 1) := by decide +kernel
theorem d_M_refuses_10 : decode b_M_refuses 10 = .ok (.ifCond .eq 7, 3) := by decide +kernel
theorem d_M_refuses_13 : decode b_M_refuses 13 = .ok (.iconst 2, 1) := by decide +kernel
theorem d_M_refuses_14 : decode b_M_refuses 14 = .ok (.goto 4, 3) := by decide +kernel
theorem d_M_refuses_17 : decode b_M_refuses 17 = .ok (.iconst 0, 1) := by decide +kernel
theorem d_M_refuses_18 : decode b_M_refuses 18 = .ok (.putfield 85, 3) := by decide +kernel
theorem d_M_refuses_21 : decode b_M_refuses 21 = .ok (.aload_n 0, 1) := by decide +kernel
theorem d_M_refuses_22 : decode b_M_refuses 22 = .ok (.getfield 85, 3) := by decide +kernel
theorem d_M_refuses_25 : decode b_M_refuses 25 = .ok (.ifCond .le 7, 3) := by decide +kernel
theorem d_M_refuses_28 : decode b_M_refuses 28 = .ok (.iconst 1, 1) := by decide +kernel
theorem d_M_refuses_29 : decode b_M_refuses 29 = .ok (.goto 4, 3) := by decide +kernel
theorem d_M_refuses_32 : decode b_M_refuses 32 = .ok (.iconst 0, 1) := by decide +kernel
theorem d_M_refuses_33 : decode b_M_refuses 33 = .ok (.ireturn, 1) := by decide +kernel
theorem d_M_thrown_0 : decode b_M_thrown 0 = .ok (.aload_n 0, 1) := by decide +kernel
theorem d_M_thrown_1 : decode b_M_thrown 1 = .ok (.getfield 85, 3) := by decide +kernel
theorem d_M_thrown_4 : decode b_M_thrown 4 = .ok (.ireturn, 1) := by decide +kernel
theorem d_M_group_0 : decode b_M_group 0 = .ok (.aload_n 0, 1) := by decide +kernel
theorem d_M_group_1 : decode b_M_group 1 = .ok (.iconst 0, 1) := by decide +kernel
theorem d_M_group_2 : decode b_M_group 2 = .ok (.putfield 85, 3) := by decide +kernel
theorem d_M_group_5 : decode b_M_group 5 = .ok (.iload_n 1, 1) := by decide +kernel
theorem d_M_group_6 : decode b_M_group 6 = .ok (.ifCond .ne 10, 3) := by decide +kernel
theorem d_M_group_9 : decode b_M_group 9 = .ok (.aload_n 0, 1) := by decide +kernel
theorem d_M_group_10 : decode b_M_group 10 = .ok (.getfield 58, 3) := by decide +kernel
theorem d_M_group_13 : decode b_M_group 13 = .ok (.goto 40, 3) := by decide +kernel
theorem d_M_group_16 : decode b_M_group 16 = .ok (.iload_n 1, 1) := by decide +kernel
theorem d_M_group_17 : decode b_M_group 17 = .ok (.iconst 1, 1) := by decide +kernel
theorem d_M_group_18 : decode b_M_group 18 = .ok (.if_icmp .ne 10, 3) := by decide +kernel
theorem d_M_group_21 : decode b_M_group 21 = .ok (.aload_n 0, 1) := by decide +kernel
theorem d_M_group_22 : decode b_M_group 22 = .ok (.getfield 62, 3) := by decide +kernel
theorem d_M_group_25 : decode b_M_group 25 = .ok (.goto 28, 3) := by decide +kernel
theorem d_M_group_28 : decode b_M_group 28 = .ok (.iload_n 1, 1) := by decide +kernel
theorem d_M_group_29 : decode b_M_group 29 = .ok (.iconst 2, 1) := by decide +kernel
theorem d_M_group_30 : decode b_M_group 30 = .ok (.if_icmp .ne 10, 3) := by decide +kernel
theorem d_M_group_33 : decode b_M_group 33 = .ok (.aload_n 0, 1) := by decide +kernel
theorem d_M_group_34 : decode b_M_group 34 = .ok (.getfield 65, 3) := by decide +kernel
theorem d_M_group_37 : decode b_M_group 37 = .ok (.goto 16, 3) := by decide +kernel
theorem d_M_group_40 : decode b_M_group 40 = .ok (.iload_n 1, 1) := by decide +kernel
theorem d_M_group_41 : decode b_M_group 41 = .ok (.iconst 3, 1) := by decide +kernel
theorem d_M_group_42 : decode b_M_group 42 = .ok (.if_icmp .ne 10, 3) := by decide +kernel
theorem d_M_group_45 : decode b_M_group 45 = .ok (.aload_n 0, 1) := by decide +kernel
theorem d_M_group_46 : decode b_M_group 46 = .ok (.getfield 68, 3) := by decide +kernel
theorem d_M_group_49 : decode b_M_group 49 = .ok (.goto 4, 3) := by decide +kernel
theorem d_M_group_52 : decode b_M_group 52 = .ok (.iconst 0, 1) := by decide +kernel
theorem d_M_group_53 : decode b_M_group 53 = .ok (.ireturn, 1) := by decide +kernel
theorem d_M_begin_0 : decode b_M_begin 0 = .ok (.iload_n 1, 1) := by decide +kernel
theorem d_M_begin_1 : decode b_M_begin 1 = .ok (.iconst 1, 1) := by decide +kernel
theorem d_M_begin_2 : decode b_M_begin 2 = .ok (.if_icmp .lt 27, 3) := by decide +kernel
theorem d_M_begin_5 : decode b_M_begin 5 = .ok (.iload_n 1, 1) := by decide +kernel
theorem d_M_begin_6 : decode b_M_begin 6 = .ok (.bipush 7, 2) := by decide +kernel
theorem d_M_begin_8 : decode b_M_begin 8 = .ok (.if_icmp .gt 21, 3) := by decide +kernel
theorem d_M_begin_11 : decode b_M_begin 11 = .ok (.iload_n 2, 1) := by decide +kernel
theorem d_M_begin_12 : decode b_M_begin 12 = .ok (.iconst 1, 1) := by decide +kernel
theorem d_M_begin_13 : decode b_M_begin 13 = .ok (.if_icmp .lt 16, 3) := by decide +kernel
theorem d_M_begin_16 : decode b_M_begin 16 = .ok (.iload_n 2, 1) := by decide +kernel
theorem d_M_begin_17 : decode b_M_begin 17 = .ok (.iload_n 1, 1) := by decide +kernel
theorem d_M_begin_18 : decode b_M_begin 18 = .ok (.if_icmp .gt 11, 3) := by decide +kernel
theorem d_M_begin_21 : decode b_M_begin 21 = .ok (.aload_n 0, 1) := by decide +kernel
theorem d_M_begin_22 : decode b_M_begin 22 = .ok (.getfield 62, 3) := by decide +kernel
theorem d_M_begin_25 : decode b_M_begin 25 = .ok (.iload_n 1, 1) := by decide +kernel
theorem d_M_begin_26 : decode b_M_begin 26 = .ok (.if_icmp .gt 7, 3) := by decide +kernel
theorem d_M_begin_29 : decode b_M_begin 29 = .ok (.iconst 1, 1) := by decide +kernel
theorem d_M_begin_30 : decode b_M_begin 30 = .ok (.goto 4, 3) := by decide +kernel
theorem d_M_begin_33 : decode b_M_begin 33 = .ok (.iconst 0, 1) := by decide +kernel
theorem d_M_begin_34 : decode b_M_begin 34 = .ok (.istore 4, 2) := by decide +kernel
theorem d_M_begin_36 : decode b_M_begin 36 = .ok (.aload_n 0, 1) := by decide +kernel
theorem d_M_begin_37 : decode b_M_begin 37 = .ok (.iload 4, 2) := by decide +kernel
theorem d_M_begin_39 : decode b_M_begin 39 = .ok (.ifCond .eq 7, 3) := by decide +kernel
theorem d_M_begin_42 : decode b_M_begin 42 = .ok (.iconst 1, 1) := by decide +kernel
theorem d_M_begin_43 : decode b_M_begin 43 = .ok (.goto 4, 3) := by decide +kernel
theorem d_M_begin_46 : decode b_M_begin 46 = .ok (.iconst 0, 1) := by decide +kernel
theorem d_M_begin_47 : decode b_M_begin 47 = .ok (.putfield 85, 3) := by decide +kernel
theorem d_M_begin_50 : decode b_M_begin 50 = .ok (.iload 4, 2) := by decide +kernel
theorem d_M_begin_52 : decode b_M_begin 52 = .ok (.ifCond .eq 4, 3) := by decide +kernel
theorem d_M_begin_55 : decode b_M_begin 55 = .ok (.return_, 1) := by decide +kernel
theorem d_M_begin_56 : decode b_M_begin 56 = .ok (.aload_n 0, 1) := by decide +kernel
theorem d_M_begin_57 : decode b_M_begin 57 = .ok (.iload_n 1, 1) := by decide +kernel
theorem d_M_begin_58 : decode b_M_begin 58 = .ok (.putfield 82, 3) := by decide +kernel
theorem d_M_begin_61 : decode b_M_begin 61 = .ok (.aload_n 0, 1) := by decide +kernel
theorem d_M_begin_62 : decode b_M_begin 62 = .ok (.iload_n 2, 1) := by decide +kernel
theorem d_M_begin_63 : decode b_M_begin 63 = .ok (.putfield 75, 3) := by decide +kernel
theorem d_M_begin_66 : decode b_M_begin 66 = .ok (.aload_n 0, 1) := by decide +kernel
theorem d_M_begin_67 : decode b_M_begin 67 = .ok (.iload_n 3, 1) := by decide +kernel
theorem d_M_begin_68 : decode b_M_begin 68 = .ok (.putfield 88, 3) := by decide +kernel
theorem d_M_begin_71 : decode b_M_begin 71 = .ok (.aload_n 0, 1) := by decide +kernel
theorem d_M_begin_72 : decode b_M_begin 72 = .ok (.iconst 1, 1) := by decide +kernel
theorem d_M_begin_73 : decode b_M_begin 73 = .ok (.putfield 92, 3) := by decide +kernel
theorem d_M_begin_76 : decode b_M_begin 76 = .ok (.aload_n 0, 1) := by decide +kernel
theorem d_M_begin_77 : decode b_M_begin 77 = .ok (.iconst 0, 1) := by decide +kernel
theorem d_M_begin_78 : decode b_M_begin 78 = .ok (.putfield 95, 3) := by decide +kernel
theorem d_M_begin_81 : decode b_M_begin 81 = .ok (.iconst 0, 1) := by decide +kernel
theorem d_M_begin_82 : decode b_M_begin 82 = .ok (.istore 5, 2) := by decide +kernel
theorem d_M_begin_84 : decode b_M_begin 84 = .ok (.iload 5, 2) := by decide +kernel
theorem d_M_begin_86 : decode b_M_begin 86 = .ok (.bipush 7, 2) := by decide +kernel
theorem d_M_begin_88 : decode b_M_begin 88 = .ok (.if_icmp .ge 33, 3) := by decide +kernel
theorem d_M_begin_91 : decode b_M_begin 91 = .ok (.aload_n 0, 1) := by decide +kernel
theorem d_M_begin_92 : decode b_M_begin 92 = .ok (.getfield 7, 3) := by decide +kernel
theorem d_M_begin_95 : decode b_M_begin 95 = .ok (.iload 5, 2) := by decide +kernel
theorem d_M_begin_97 : decode b_M_begin 97 = .ok (.iconst 0, 1) := by decide +kernel
theorem d_M_begin_98 : decode b_M_begin 98 = .ok (.iastore, 1) := by decide +kernel
theorem d_M_begin_99 : decode b_M_begin 99 = .ok (.aload_n 0, 1) := by decide +kernel
theorem d_M_begin_100 : decode b_M_begin 100 = .ok (.getfield 13, 3) := by decide +kernel
theorem d_M_begin_103 : decode b_M_begin 103 = .ok (.iload 5, 2) := by decide +kernel
theorem d_M_begin_105 : decode b_M_begin 105 = .ok (.iconst 0, 1) := by decide +kernel
theorem d_M_begin_106 : decode b_M_begin 106 = .ok (.iastore, 1) := by decide +kernel
theorem d_M_begin_107 : decode b_M_begin 107 = .ok (.aload_n 0, 1) := by decide +kernel
theorem d_M_begin_108 : decode b_M_begin 108 = .ok (.getfield 16, 3) := by decide +kernel
theorem d_M_begin_111 : decode b_M_begin 111 = .ok (.iload 5, 2) := by decide +kernel
theorem d_M_begin_113 : decode b_M_begin 113 = .ok (.iconst 0, 1) := by decide +kernel
theorem d_M_begin_114 : decode b_M_begin 114 = .ok (.iastore, 1) := by decide +kernel
theorem d_M_begin_115 : decode b_M_begin 115 = .ok (.iinc 5 1, 3) := by decide +kernel
theorem d_M_begin_118 : decode b_M_begin 118 = .ok (.goto (-34), 3) := by decide +kernel
theorem d_M_begin_121 : decode b_M_begin 121 = .ok (.iconst 0, 1) := by decide +kernel
theorem d_M_begin_122 : decode b_M_begin 122 = .ok (.istore 5, 2) := by decide +kernel
theorem d_M_begin_124 : decode b_M_begin 124 = .ok (.iload 5, 2) := by decide +kernel
theorem d_M_begin_126 : decode b_M_begin 126 = .ok (.bipush 8, 2) := by decide +kernel
theorem d_M_begin_128 : decode b_M_begin 128 = .ok (.if_icmp .ge 41, 3) := by decide +kernel
theorem d_M_begin_131 : decode b_M_begin 131 = .ok (.aload_n 0, 1) := by decide +kernel
theorem d_M_begin_132 : decode b_M_begin 132 = .ok (.getfield 19, 3) := by decide +kernel
theorem d_M_begin_135 : decode b_M_begin 135 = .ok (.iload 5, 2) := by decide +kernel
theorem d_M_begin_137 : decode b_M_begin 137 = .ok (.iconst 0, 1) := by decide +kernel
theorem d_M_begin_138 : decode b_M_begin 138 = .ok (.bastore, 1) := by decide +kernel
theorem d_M_begin_139 : decode b_M_begin 139 = .ok (.aload_n 0, 1) := by decide +kernel
theorem d_M_begin_140 : decode b_M_begin 140 = .ok (.getfield 23, 3) := by decide +kernel
theorem d_M_begin_143 : decode b_M_begin 143 = .ok (.iload 5, 2) := by decide +kernel
theorem d_M_begin_145 : decode b_M_begin 145 = .ok (.iconst 0, 1) := by decide +kernel
theorem d_M_begin_146 : decode b_M_begin 146 = .ok (.bastore, 1) := by decide +kernel
theorem d_M_begin_147 : decode b_M_begin 147 = .ok (.aload_n 0, 1) := by decide +kernel
theorem d_M_begin_148 : decode b_M_begin 148 = .ok (.getfield 26, 3) := by decide +kernel
theorem d_M_begin_151 : decode b_M_begin 151 = .ok (.iload 5, 2) := by decide +kernel
theorem d_M_begin_153 : decode b_M_begin 153 = .ok (.iconst 0, 1) := by decide +kernel
theorem d_M_begin_154 : decode b_M_begin 154 = .ok (.bastore, 1) := by decide +kernel
theorem d_M_begin_155 : decode b_M_begin 155 = .ok (.aload_n 0, 1) := by decide +kernel
theorem d_M_begin_156 : decode b_M_begin 156 = .ok (.getfield 35, 3) := by decide +kernel
theorem d_M_begin_159 : decode b_M_begin 159 = .ok (.iload 5, 2) := by decide +kernel
theorem d_M_begin_161 : decode b_M_begin 161 = .ok (.iconst 0, 1) := by decide +kernel
theorem d_M_begin_162 : decode b_M_begin 162 = .ok (.bastore, 1) := by decide +kernel
theorem d_M_begin_163 : decode b_M_begin 163 = .ok (.iinc 5 1, 3) := by decide +kernel
theorem d_M_begin_166 : decode b_M_begin 166 = .ok (.goto (-42), 3) := by decide +kernel
theorem d_M_begin_169 : decode b_M_begin 169 = .ok (.return_, 1) := by decide +kernel
theorem d_M_coefficient_0 : decode b_M_coefficient 0 = .ok (.aload_n 0, 1) := by decide +kernel
theorem d_M_coefficient_1 : decode b_M_coefficient 1 = .ok (.aload_n 0, 1) := by decide +kernel
theorem d_M_coefficient_2 : decode b_M_coefficient 2 = .ok (.getfield 92, 3) := by decide +kernel
theorem d_M_coefficient_5 : decode b_M_coefficient 5 = .ok (.iconst 1, 1) := by decide +kernel
theorem d_M_coefficient_6 : decode b_M_coefficient 6 = .ok (.if_icmp .eq 7, 3) := by decide +kernel
theorem d_M_coefficient_9 : decode b_M_coefficient 9 = .ok (.iconst 1, 1) := by decide +kernel
theorem d_M_coefficient_10 : decode b_M_coefficient 10 = .ok (.goto 4, 3) := by decide +kernel
theorem d_M_coefficient_13 : decode b_M_coefficient 13 = .ok (.iconst 0, 1) := by decide +kernel
theorem d_M_coefficient_14 : decode b_M_coefficient 14 = .ok (.iload_n 1, 1) := by decide +kernel
theorem d_M_coefficient_15 : decode b_M_coefficient 15 = .ok (.ifCond .lt 11, 3) := by decide +kernel
theorem d_M_coefficient_18 : decode b_M_coefficient 18 = .ok (.iload_n 1, 1) := by decide +kernel
theorem d_M_coefficient_19 : decode b_M_coefficient 19 = .ok (.aload_n 0, 1) := by decide +kernel
theorem d_M_coefficient_20 : decode b_M_coefficient 20 = .ok (.getfield 75, 3) := by decide +kernel
theorem d_M_coefficient_23 : decode b_M_coefficient 23 = .ok (.if_icmp .lt 7, 3) := by decide +kernel
theorem d_M_coefficient_26 : decode b_M_coefficient 26 = .ok (.iconst 1, 1) := by decide +kernel
theorem d_M_coefficient_27 : decode b_M_coefficient 27 = .ok (.goto 4, 3) := by decide +kernel
theorem d_M_coefficient_30 : decode b_M_coefficient 30 = .ok (.iconst 0, 1) := by decide +kernel
theorem d_M_coefficient_31 : decode b_M_coefficient 31 = .ok (.invokevirtual 98, 3) := by decide +kernel
theorem d_M_coefficient_34 : decode b_M_coefficient 34 = .ok (.ifCond .eq 4, 3) := by decide +kernel
theorem d_M_coefficient_37 : decode b_M_coefficient 37 = .ok (.return_, 1) := by decide +kernel
theorem d_M_coefficient_38 : decode b_M_coefficient 38 = .ok (.aload_n 0, 1) := by decide +kernel
theorem d_M_coefficient_39 : decode b_M_coefficient 39 = .ok (.getfield 7, 3) := by decide +kernel
theorem d_M_coefficient_42 : decode b_M_coefficient 42 = .ok (.iload_n 1, 1) := by decide +kernel
theorem d_M_coefficient_43 : decode b_M_coefficient 43 = .ok (.aload_n 0, 1) := by decide +kernel
theorem d_M_coefficient_44 : decode b_M_coefficient 44 = .ok (.iload_n 2, 1) := by decide +kernel
theorem d_M_coefficient_45 : decode b_M_coefficient 45 = .ok (.invokevirtual 102, 3) := by decide +kernel
theorem d_M_coefficient_48 : decode b_M_coefficient 48 = .ok (.iastore, 1) := by decide +kernel
theorem d_M_coefficient_49 : decode b_M_coefficient 49 = .ok (.aload_n 0, 1) := by decide +kernel
theorem d_M_coefficient_50 : decode b_M_coefficient 50 = .ok (.getfield 13, 3) := by decide +kernel
theorem d_M_coefficient_53 : decode b_M_coefficient 53 = .ok (.iload_n 1, 1) := by decide +kernel
theorem d_M_coefficient_54 : decode b_M_coefficient 54 = .ok (.aload_n 0, 1) := by decide +kernel
theorem d_M_coefficient_55 : decode b_M_coefficient 55 = .ok (.getfield 88, 3) := by decide +kernel
theorem d_M_coefficient_58 : decode b_M_coefficient 58 = .ok (.ifCond .eq 11, 3) := by decide +kernel
theorem d_M_coefficient_61 : decode b_M_coefficient 61 = .ok (.aload_n 0, 1) := by decide +kernel
theorem d_M_coefficient_62 : decode b_M_coefficient 62 = .ok (.iload_n 3, 1) := by decide +kernel
theorem d_M_coefficient_63 : decode b_M_coefficient 63 = .ok (.invokevirtual 102, 3) := by decide +kernel
theorem d_M_coefficient_66 : decode b_M_coefficient 66 = .ok (.goto 4, 3) := by decide +kernel
theorem d_M_coefficient_69 : decode b_M_coefficient 69 = .ok (.iconst 0, 1) := by decide +kernel
theorem d_M_coefficient_70 : decode b_M_coefficient 70 = .ok (.iastore, 1) := by decide +kernel
theorem d_M_coefficient_71 : decode b_M_coefficient 71 = .ok (.return_, 1) := by decide +kernel
theorem d_M_deal_0 : decode b_M_deal 0 = .ok (.iconst 0, 1) := by decide +kernel
theorem d_M_deal_1 : decode b_M_deal 1 = .ok (.istore_n 1, 1) := by decide +kernel
theorem d_M_deal_2 : decode b_M_deal 2 = .ok (.iload_n 1, 1) := by decide +kernel
theorem d_M_deal_3 : decode b_M_deal 3 = .ok (.aload_n 0, 1) := by decide +kernel
theorem d_M_deal_4 : decode b_M_deal 4 = .ok (.getfield 75, 3) := by decide +kernel
theorem d_M_deal_7 : decode b_M_deal 7 = .ok (.if_icmp .ge 31, 3) := by decide +kernel
theorem d_M_deal_10 : decode b_M_deal 10 = .ok (.aload_n 0, 1) := by decide +kernel
theorem d_M_deal_11 : decode b_M_deal 11 = .ok (.getfield 16, 3) := by decide +kernel
theorem d_M_deal_14 : decode b_M_deal 14 = .ok (.iload_n 1, 1) := by decide +kernel
theorem d_M_deal_15 : decode b_M_deal 15 = .ok (.aload_n 0, 1) := by decide +kernel
theorem d_M_deal_16 : decode b_M_deal 16 = .ok (.aload_n 0, 1) := by decide +kernel
theorem d_M_deal_17 : decode b_M_deal 17 = .ok (.getfield 7, 3) := by decide +kernel
theorem d_M_deal_20 : decode b_M_deal 20 = .ok (.iload_n 1, 1) := by decide +kernel
theorem d_M_deal_21 : decode b_M_deal 21 = .ok (.iaload, 1) := by decide +kernel
theorem d_M_deal_22 : decode b_M_deal 22 = .ok (.aload_n 0, 1) := by decide +kernel
theorem d_M_deal_23 : decode b_M_deal 23 = .ok (.getfield 13, 3) := by decide +kernel
theorem d_M_deal_26 : decode b_M_deal 26 = .ok (.iload_n 1, 1) := by decide +kernel
theorem d_M_deal_27 : decode b_M_deal 27 = .ok (.iaload, 1) := by decide +kernel
theorem d_M_deal_28 : decode b_M_deal 28 = .ok (.invokevirtual 78, 3) := by decide +kernel
theorem d_M_deal_31 : decode b_M_deal 31 = .ok (.iastore, 1) := by decide +kernel
theorem d_M_deal_32 : decode b_M_deal 32 = .ok (.iinc 1 1, 3) := by decide +kernel
theorem d_M_deal_35 : decode b_M_deal 35 = .ok (.goto (-33), 3) := by decide +kernel
theorem d_M_deal_38 : decode b_M_deal 38 = .ok (.iconst 1, 1) := by decide +kernel
theorem d_M_deal_39 : decode b_M_deal 39 = .ok (.istore_n 1, 1) := by decide +kernel
theorem d_M_deal_40 : decode b_M_deal 40 = .ok (.iload_n 1, 1) := by decide +kernel
theorem d_M_deal_41 : decode b_M_deal 41 = .ok (.aload_n 0, 1) := by decide +kernel
theorem d_M_deal_42 : decode b_M_deal 42 = .ok (.getfield 82, 3) := by decide +kernel
theorem d_M_deal_45 : decode b_M_deal 45 = .ok (.if_icmp .gt 39, 3) := by decide +kernel
theorem d_M_deal_48 : decode b_M_deal 48 = .ok (.aload_n 0, 1) := by decide +kernel
theorem d_M_deal_49 : decode b_M_deal 49 = .ok (.getfield 29, 3) := by decide +kernel
theorem d_M_deal_52 : decode b_M_deal 52 = .ok (.iload_n 1, 1) := by decide +kernel
theorem d_M_deal_53 : decode b_M_deal 53 = .ok (.aload_n 0, 1) := by decide +kernel
theorem d_M_deal_54 : decode b_M_deal 54 = .ok (.aload_n 0, 1) := by decide +kernel
theorem d_M_deal_55 : decode b_M_deal 55 = .ok (.getfield 7, 3) := by decide +kernel
theorem d_M_deal_58 : decode b_M_deal 58 = .ok (.iload_n 1, 1) := by decide +kernel
theorem d_M_deal_59 : decode b_M_deal 59 = .ok (.invokevirtual 106, 3) := by decide +kernel
theorem d_M_deal_62 : decode b_M_deal 62 = .ok (.iastore, 1) := by decide +kernel
theorem d_M_deal_63 : decode b_M_deal 63 = .ok (.aload_n 0, 1) := by decide +kernel
theorem d_M_deal_64 : decode b_M_deal 64 = .ok (.getfield 32, 3) := by decide +kernel
theorem d_M_deal_67 : decode b_M_deal 67 = .ok (.iload_n 1, 1) := by decide +kernel
theorem d_M_deal_68 : decode b_M_deal 68 = .ok (.aload_n 0, 1) := by decide +kernel
theorem d_M_deal_69 : decode b_M_deal 69 = .ok (.aload_n 0, 1) := by decide +kernel
theorem d_M_deal_70 : decode b_M_deal 70 = .ok (.getfield 13, 3) := by decide +kernel
theorem d_M_deal_73 : decode b_M_deal 73 = .ok (.iload_n 1, 1) := by decide +kernel
theorem d_M_deal_74 : decode b_M_deal 74 = .ok (.invokevirtual 106, 3) := by decide +kernel
theorem d_M_deal_77 : decode b_M_deal 77 = .ok (.iastore, 1) := by decide +kernel
theorem d_M_deal_78 : decode b_M_deal 78 = .ok (.iinc 1 1, 3) := by decide +kernel
theorem d_M_deal_81 : decode b_M_deal 81 = .ok (.goto (-41), 3) := by decide +kernel
theorem d_M_deal_84 : decode b_M_deal 84 = .ok (.return_, 1) := by decide +kernel
theorem d_M_advance_0 : decode b_M_advance 0 = .ok (.aload_n 0, 1) := by decide +kernel
theorem d_M_advance_1 : decode b_M_advance 1 = .ok (.aload_n 0, 1) := by decide +kernel
theorem d_M_advance_2 : decode b_M_advance 2 = .ok (.getfield 92, 3) := by decide +kernel
theorem d_M_advance_5 : decode b_M_advance 5 = .ok (.ifCond .eq 11, 3) := by decide +kernel
theorem d_M_advance_8 : decode b_M_advance 8 = .ok (.aload_n 0, 1) := by decide +kernel
theorem d_M_advance_9 : decode b_M_advance 9 = .ok (.getfield 92, 3) := by decide +kernel
theorem d_M_advance_12 : decode b_M_advance 12 = .ok (.iconst 5, 1) := by decide +kernel
theorem d_M_advance_13 : decode b_M_advance 13 = .ok (.if_icmp .lt 7, 3) := by decide +kernel
theorem d_M_advance_16 : decode b_M_advance 16 = .ok (.iconst 1, 1) := by decide +kernel
theorem d_M_advance_17 : decode b_M_advance 17 = .ok (.goto 4, 3) := by decide +kernel
theorem d_M_advance_20 : decode b_M_advance 20 = .ok (.iconst 0, 1) := by decide +kernel
theorem d_M_advance_21 : decode b_M_advance 21 = .ok (.iconst 0, 1) := by decide +kernel
theorem d_M_advance_22 : decode b_M_advance 22 = .ok (.invokevirtual 98, 3) := by decide +kernel
theorem d_M_advance_25 : decode b_M_advance 25 = .ok (.ifCond .eq 5, 3) := by decide +kernel
theorem d_M_advance_28 : decode b_M_advance 28 = .ok (.iconst 0, 1) := by decide +kernel
theorem d_M_advance_29 : decode b_M_advance 29 = .ok (.ireturn, 1) := by decide +kernel
theorem d_M_advance_30 : decode b_M_advance 30 = .ok (.iconst 0, 1) := by decide +kernel
theorem d_M_advance_31 : decode b_M_advance 31 = .ok (.istore_n 1, 1) := by decide +kernel
theorem d_M_advance_32 : decode b_M_advance 32 = .ok (.iconst 1, 1) := by decide +kernel
theorem d_M_advance_33 : decode b_M_advance 33 = .ok (.istore_n 2, 1) := by decide +kernel
theorem d_M_advance_34 : decode b_M_advance 34 = .ok (.iconst 1, 1) := by decide +kernel
theorem d_M_advance_35 : decode b_M_advance 35 = .ok (.istore_n 3, 1) := by decide +kernel
theorem d_M_advance_36 : decode b_M_advance 36 = .ok (.iload_n 3, 1) := by decide +kernel
theorem d_M_advance_37 : decode b_M_advance 37 = .ok (.aload_n 0, 1) := by decide +kernel
theorem d_M_advance_38 : decode b_M_advance 38 = .ok (.getfield 82, 3) := by decide +kernel
theorem d_M_advance_41 : decode b_M_advance 41 = .ok (.if_icmp .gt 74, 3) := by decide +kernel
theorem d_M_advance_44 : decode b_M_advance 44 = .ok (.aload_n 0, 1) := by decide +kernel
theorem d_M_advance_45 : decode b_M_advance 45 = .ok (.getfield 23, 3) := by decide +kernel
theorem d_M_advance_48 : decode b_M_advance 48 = .ok (.iload_n 3, 1) := by decide +kernel
theorem d_M_advance_49 : decode b_M_advance 49 = .ok (.baload, 1) := by decide +kernel
theorem d_M_advance_50 : decode b_M_advance 50 = .ok (.ifCond .eq 9, 3) := by decide +kernel
theorem d_M_advance_53 : decode b_M_advance 53 = .ok (.iload_n 1, 1) := by decide +kernel
theorem d_M_advance_54 : decode b_M_advance 54 = .ok (.iconst 1, 1) := by decide +kernel
theorem d_M_advance_55 : decode b_M_advance 55 = .ok (.iadd, 1) := by decide +kernel
theorem d_M_advance_56 : decode b_M_advance 56 = .ok (.goto 4, 3) := by decide +kernel
theorem d_M_advance_59 : decode b_M_advance 59 = .ok (.iload_n 1, 1) := by decide +kernel
theorem d_M_advance_60 : decode b_M_advance 60 = .ok (.istore_n 1, 1) := by decide +kernel
theorem d_M_advance_61 : decode b_M_advance 61 = .ok (.iload_n 2, 1) := by decide +kernel
theorem d_M_advance_62 : decode b_M_advance 62 = .ok (.ifCond .eq 45, 3) := by decide +kernel
theorem d_M_advance_65 : decode b_M_advance 65 = .ok (.aload_n 0, 1) := by decide +kernel
theorem d_M_advance_66 : decode b_M_advance 66 = .ok (.getfield 23, 3) := by decide +kernel
theorem d_M_advance_69 : decode b_M_advance 69 = .ok (.iload_n 3, 1) := by decide +kernel
theorem d_M_advance_70 : decode b_M_advance 70 = .ok (.baload, 1) := by decide +kernel
theorem d_M_advance_71 : decode b_M_advance 71 = .ok (.ifCond .eq 32, 3) := by decide +kernel
theorem d_M_advance_74 : decode b_M_advance 74 = .ok (.aload_n 0, 1) := by decide +kernel
theorem d_M_advance_75 : decode b_M_advance 75 = .ok (.getfield 26, 3) := by decide +kernel
theorem d_M_advance_78 : decode b_M_advance 78 = .ok (.iload_n 3, 1) := by decide +kernel
theorem d_M_advance_79 : decode b_M_advance 79 = .ok (.baload, 1) := by decide +kernel
theorem d_M_advance_80 : decode b_M_advance 80 = .ok (.ifCond .eq 27, 3) := by decide +kernel
theorem d_M_advance_83 : decode b_M_advance 83 = .ok (.aload_n 0, 1) := by decide +kernel
theorem d_M_advance_84 : decode b_M_advance 84 = .ok (.iload_n 3, 1) := by decide +kernel
theorem d_M_advance_85 : decode b_M_advance 85 = .ok (.aload_n 0, 1) := by decide +kernel
theorem d_M_advance_86 : decode b_M_advance 86 = .ok (.getfield 29, 3) := by decide +kernel
theorem d_M_advance_89 : decode b_M_advance 89 = .ok (.iload_n 3, 1) := by decide +kernel
theorem d_M_advance_90 : decode b_M_advance 90 = .ok (.iaload, 1) := by decide +kernel
theorem d_M_advance_91 : decode b_M_advance 91 = .ok (.aload_n 0, 1) := by decide +kernel
theorem d_M_advance_92 : decode b_M_advance 92 = .ok (.getfield 32, 3) := by decide +kernel
theorem d_M_advance_95 : decode b_M_advance 95 = .ok (.iload_n 3, 1) := by decide +kernel
theorem d_M_advance_96 : decode b_M_advance 96 = .ok (.iaload, 1) := by decide +kernel
theorem d_M_advance_97 : decode b_M_advance 97 = .ok (.invokevirtual 110, 3) := by decide +kernel
theorem d_M_advance_100 : decode b_M_advance 100 = .ok (.ifCond .eq 7, 3) := by decide +kernel
theorem d_M_advance_103 : decode b_M_advance 103 = .ok (.iconst 1, 1) := by decide +kernel
theorem d_M_advance_104 : decode b_M_advance 104 = .ok (.goto 4, 3) := by decide +kernel
theorem d_M_advance_107 : decode b_M_advance 107 = .ok (.iconst 0, 1) := by decide +kernel
theorem d_M_advance_108 : decode b_M_advance 108 = .ok (.istore_n 2, 1) := by decide +kernel
theorem d_M_advance_109 : decode b_M_advance 109 = .ok (.iinc 3 1, 3) := by decide +kernel
theorem d_M_advance_112 : decode b_M_advance 112 = .ok (.goto (-76), 3) := by decide +kernel
theorem d_M_advance_115 : decode b_M_advance 115 = .ok (.aload_n 0, 1) := by decide +kernel
theorem d_M_advance_116 : decode b_M_advance 116 = .ok (.getfield 92, 3) := by decide +kernel
theorem d_M_advance_119 : decode b_M_advance 119 = .ok (.iconst 1, 1) := by decide +kernel
theorem d_M_advance_120 : decode b_M_advance 120 = .ok (.if_icmp .ne 7, 3) := by decide +kernel
theorem d_M_advance_123 : decode b_M_advance 123 = .ok (.aload_n 0, 1) := by decide +kernel
theorem d_M_advance_124 : decode b_M_advance 124 = .ok (.invokevirtual 114, 3) := by decide +kernel
theorem d_M_advance_127 : decode b_M_advance 127 = .ok (.aload_n 0, 1) := by decide +kernel
theorem d_M_advance_128 : decode b_M_advance 128 = .ok (.getfield 92, 3) := by decide +kernel
theorem d_M_advance_131 : decode b_M_advance 131 = .ok (.iconst 2, 1) := by decide +kernel
theorem d_M_advance_132 : decode b_M_advance 132 = .ok (.if_icmp .ne 59, 3) := by decide +kernel
theorem d_M_advance_135 : decode b_M_advance 135 = .ok (.iconst 1, 1) := by decide +kernel
theorem d_M_advance_136 : decode b_M_advance 136 = .ok (.istore_n 3, 1) := by decide +kernel
theorem d_M_advance_137 : decode b_M_advance 137 = .ok (.iload_n 3, 1) := by decide +kernel
theorem d_M_advance_138 : decode b_M_advance 138 = .ok (.aload_n 0, 1) := by decide +kernel
theorem d_M_advance_139 : decode b_M_advance 139 = .ok (.getfield 82, 3) := by decide +kernel
theorem d_M_advance_142 : decode b_M_advance 142 = .ok (.if_icmp .gt 49, 3) := by decide +kernel
theorem d_M_advance_145 : decode b_M_advance 145 = .ok (.aload_n 0, 1) := by decide +kernel
theorem d_M_advance_146 : decode b_M_advance 146 = .ok (.getfield 23, 3) := by decide +kernel
theorem d_M_advance_149 : decode b_M_advance 149 = .ok (.iload_n 3, 1) := by decide +kernel
theorem d_M_advance_150 : decode b_M_advance 150 = .ok (.aload_n 0, 1) := by decide +kernel
theorem d_M_advance_151 : decode b_M_advance 151 = .ok (.getfield 19, 3) := by decide +kernel
theorem d_M_advance_154 : decode b_M_advance 154 = .ok (.iload_n 3, 1) := by decide +kernel
theorem d_M_advance_155 : decode b_M_advance 155 = .ok (.baload, 1) := by decide +kernel
theorem d_M_advance_156 : decode b_M_advance 156 = .ok (.ifCond .ne 27, 3) := by decide +kernel
theorem d_M_advance_159 : decode b_M_advance 159 = .ok (.aload_n 0, 1) := by decide +kernel
theorem d_M_advance_160 : decode b_M_advance 160 = .ok (.iload_n 3, 1) := by decide +kernel
theorem d_M_advance_161 : decode b_M_advance 161 = .ok (.aload_n 0, 1) := by decide +kernel
theorem d_M_advance_162 : decode b_M_advance 162 = .ok (.getfield 29, 3) := by decide +kernel
theorem d_M_advance_165 : decode b_M_advance 165 = .ok (.iload_n 3, 1) := by decide +kernel
theorem d_M_advance_166 : decode b_M_advance 166 = .ok (.iaload, 1) := by decide +kernel
theorem d_M_advance_167 : decode b_M_advance 167 = .ok (.aload_n 0, 1) := by decide +kernel
theorem d_M_advance_168 : decode b_M_advance 168 = .ok (.getfield 32, 3) := by decide +kernel
theorem d_M_advance_171 : decode b_M_advance 171 = .ok (.iload_n 3, 1) := by decide +kernel
theorem d_M_advance_172 : decode b_M_advance 172 = .ok (.iaload, 1) := by decide +kernel
theorem d_M_advance_173 : decode b_M_advance 173 = .ok (.invokevirtual 110, 3) := by decide +kernel
theorem d_M_advance_176 : decode b_M_advance 176 = .ok (.ifCond .ne 7, 3) := by decide +kernel
theorem d_M_advance_179 : decode b_M_advance 179 = .ok (.iconst 1, 1) := by decide +kernel
theorem d_M_advance_180 : decode b_M_advance 180 = .ok (.goto 4, 3) := by decide +kernel
theorem d_M_advance_183 : decode b_M_advance 183 = .ok (.iconst 0, 1) := by decide +kernel
theorem d_M_advance_184 : decode b_M_advance 184 = .ok (.bastore, 1) := by decide +kernel
theorem d_M_advance_185 : decode b_M_advance 185 = .ok (.iinc 3 1, 3) := by decide +kernel
theorem d_M_advance_188 : decode b_M_advance 188 = .ok (.goto (-51), 3) := by decide +kernel
theorem d_M_advance_191 : decode b_M_advance 191 = .ok (.aload_n 0, 1) := by decide +kernel
theorem d_M_advance_192 : decode b_M_advance 192 = .ok (.getfield 92, 3) := by decide +kernel
theorem d_M_advance_195 : decode b_M_advance 195 = .ok (.iconst 3, 1) := by decide +kernel
theorem d_M_advance_196 : decode b_M_advance 196 = .ok (.if_icmp .ne 11, 3) := by decide +kernel
theorem d_M_advance_199 : decode b_M_advance 199 = .ok (.iload_n 1, 1) := by decide +kernel
theorem d_M_advance_200 : decode b_M_advance 200 = .ok (.aload_n 0, 1) := by decide +kernel
theorem d_M_advance_201 : decode b_M_advance 201 = .ok (.getfield 75, 3) := by decide +kernel
theorem d_M_advance_204 : decode b_M_advance 204 = .ok (.if_icmp .ge 15, 3) := by decide +kernel
theorem d_M_advance_207 : decode b_M_advance 207 = .ok (.aload_n 0, 1) := by decide +kernel
theorem d_M_advance_208 : decode b_M_advance 208 = .ok (.getfield 92, 3) := by decide +kernel
theorem d_M_advance_211 : decode b_M_advance 211 = .ok (.iconst 4, 1) := by decide +kernel
theorem d_M_advance_212 : decode b_M_advance 212 = .ok (.if_icmp .ne 11, 3) := by decide +kernel
theorem d_M_advance_215 : decode b_M_advance 215 = .ok (.iload_n 2, 1) := by decide +kernel
theorem d_M_advance_216 : decode b_M_advance 216 = .ok (.ifCond .ne 7, 3) := by decide +kernel
theorem d_M_advance_219 : decode b_M_advance 219 = .ok (.iconst 1, 1) := by decide +kernel
theorem d_M_advance_220 : decode b_M_advance 220 = .ok (.goto 4, 3) := by decide +kernel
theorem d_M_advance_223 : decode b_M_advance 223 = .ok (.iconst 0, 1) := by decide +kernel
theorem d_M_advance_224 : decode b_M_advance 224 = .ok (.istore_n 3, 1) := by decide +kernel
theorem d_M_advance_225 : decode b_M_advance 225 = .ok (.aload_n 0, 1) := by decide +kernel
theorem d_M_advance_226 : decode b_M_advance 226 = .ok (.iload_n 3, 1) := by decide +kernel
theorem d_M_advance_227 : decode b_M_advance 227 = .ok (.ifCond .eq 8, 3) := by decide +kernel
theorem d_M_advance_230 : decode b_M_advance 230 = .ok (.bipush 6, 2) := by decide +kernel
theorem d_M_advance_232 : decode b_M_advance 232 = .ok (.goto 9, 3) := by decide +kernel
theorem d_M_advance_235 : decode b_M_advance 235 = .ok (.aload_n 0, 1) := by decide +kernel
theorem d_M_advance_236 : decode b_M_advance 236 = .ok (.getfield 92, 3) := by decide +kernel
theorem d_M_advance_239 : decode b_M_advance 239 = .ok (.iconst 1, 1) := by decide +kernel
theorem d_M_advance_240 : decode b_M_advance 240 = .ok (.iadd, 1) := by decide +kernel
theorem d_M_advance_241 : decode b_M_advance 241 = .ok (.putfield 92, 3) := by decide +kernel
theorem d_M_advance_244 : decode b_M_advance 244 = .ok (.aload_n 0, 1) := by decide +kernel
theorem d_M_advance_245 : decode b_M_advance 245 = .ok (.getfield 92, 3) := by decide +kernel
theorem d_M_advance_248 : decode b_M_advance 248 = .ok (.ireturn, 1) := by decide +kernel
theorem d_M_tamper_0 : decode b_M_tamper 0 = .ok (.aload_n 0, 1) := by decide +kernel
theorem d_M_tamper_1 : decode b_M_tamper 1 = .ok (.aload_n 0, 1) := by decide +kernel
theorem d_M_tamper_2 : decode b_M_tamper 2 = .ok (.getfield 92, 3) := by decide +kernel
theorem d_M_tamper_5 : decode b_M_tamper 5 = .ok (.iconst 2, 1) := by decide +kernel
theorem d_M_tamper_6 : decode b_M_tamper 6 = .ok (.if_icmp .eq 7, 3) := by decide +kernel
theorem d_M_tamper_9 : decode b_M_tamper 9 = .ok (.iconst 1, 1) := by decide +kernel
theorem d_M_tamper_10 : decode b_M_tamper 10 = .ok (.goto 4, 3) := by decide +kernel
theorem d_M_tamper_13 : decode b_M_tamper 13 = .ok (.iconst 0, 1) := by decide +kernel
theorem d_M_tamper_14 : decode b_M_tamper 14 = .ok (.aload_n 0, 1) := by decide +kernel
theorem d_M_tamper_15 : decode b_M_tamper 15 = .ok (.iload_n 1, 1) := by decide +kernel
theorem d_M_tamper_16 : decode b_M_tamper 16 = .ok (.invokevirtual 117, 3) := by decide +kernel
theorem d_M_tamper_19 : decode b_M_tamper 19 = .ok (.ifCond .ne 7, 3) := by decide +kernel
theorem d_M_tamper_22 : decode b_M_tamper 22 = .ok (.iconst 1, 1) := by decide +kernel
theorem d_M_tamper_23 : decode b_M_tamper 23 = .ok (.goto 4, 3) := by decide +kernel
theorem d_M_tamper_26 : decode b_M_tamper 26 = .ok (.iconst 0, 1) := by decide +kernel
theorem d_M_tamper_27 : decode b_M_tamper 27 = .ok (.invokevirtual 98, 3) := by decide +kernel
theorem d_M_tamper_30 : decode b_M_tamper 30 = .ok (.ifCond .eq 4, 3) := by decide +kernel
theorem d_M_tamper_33 : decode b_M_tamper 33 = .ok (.return_, 1) := by decide +kernel
theorem d_M_tamper_34 : decode b_M_tamper 34 = .ok (.aload_n 0, 1) := by decide +kernel
theorem d_M_tamper_35 : decode b_M_tamper 35 = .ok (.getfield 29, 3) := by decide +kernel
theorem d_M_tamper_38 : decode b_M_tamper 38 = .ok (.iload_n 1, 1) := by decide +kernel
theorem d_M_tamper_39 : decode b_M_tamper 39 = .ok (.aload_n 0, 1) := by decide +kernel
theorem d_M_tamper_40 : decode b_M_tamper 40 = .ok (.iload_n 2, 1) := by decide +kernel
theorem d_M_tamper_41 : decode b_M_tamper 41 = .ok (.invokevirtual 102, 3) := by decide +kernel
theorem d_M_tamper_44 : decode b_M_tamper 44 = .ok (.iastore, 1) := by decide +kernel
theorem d_M_tamper_45 : decode b_M_tamper 45 = .ok (.aload_n 0, 1) := by decide +kernel
theorem d_M_tamper_46 : decode b_M_tamper 46 = .ok (.getfield 32, 3) := by decide +kernel
theorem d_M_tamper_49 : decode b_M_tamper 49 = .ok (.iload_n 1, 1) := by decide +kernel
theorem d_M_tamper_50 : decode b_M_tamper 50 = .ok (.aload_n 0, 1) := by decide +kernel
theorem d_M_tamper_51 : decode b_M_tamper 51 = .ok (.getfield 88, 3) := by decide +kernel
theorem d_M_tamper_54 : decode b_M_tamper 54 = .ok (.ifCond .eq 11, 3) := by decide +kernel
theorem d_M_tamper_57 : decode b_M_tamper 57 = .ok (.aload_n 0, 1) := by decide +kernel
theorem d_M_tamper_58 : decode b_M_tamper 58 = .ok (.iload_n 3, 1) := by decide +kernel
theorem d_M_tamper_59 : decode b_M_tamper 59 = .ok (.invokevirtual 102, 3) := by decide +kernel
theorem d_M_tamper_62 : decode b_M_tamper 62 = .ok (.goto 4, 3) := by decide +kernel
theorem d_M_tamper_65 : decode b_M_tamper 65 = .ok (.iconst 0, 1) := by decide +kernel
theorem d_M_tamper_66 : decode b_M_tamper 66 = .ok (.iastore, 1) := by decide +kernel
theorem d_M_tamper_67 : decode b_M_tamper 67 = .ok (.return_, 1) := by decide +kernel
theorem d_M_forge_0 : decode b_M_forge 0 = .ok (.aload_n 0, 1) := by decide +kernel
theorem d_M_forge_1 : decode b_M_forge 1 = .ok (.aload_n 0, 1) := by decide +kernel
theorem d_M_forge_2 : decode b_M_forge 2 = .ok (.getfield 92, 3) := by decide +kernel
theorem d_M_forge_5 : decode b_M_forge 5 = .ok (.iconst 2, 1) := by decide +kernel
theorem d_M_forge_6 : decode b_M_forge 6 = .ok (.if_icmp .eq 7, 3) := by decide +kernel
theorem d_M_forge_9 : decode b_M_forge 9 = .ok (.iconst 1, 1) := by decide +kernel
theorem d_M_forge_10 : decode b_M_forge 10 = .ok (.goto 4, 3) := by decide +kernel
theorem d_M_forge_13 : decode b_M_forge 13 = .ok (.iconst 0, 1) := by decide +kernel
theorem d_M_forge_14 : decode b_M_forge 14 = .ok (.iload_n 1, 1) := by decide +kernel
theorem d_M_forge_15 : decode b_M_forge 15 = .ok (.ifCond .lt 24, 3) := by decide +kernel
theorem d_M_forge_18 : decode b_M_forge 18 = .ok (.iload_n 1, 1) := by decide +kernel
theorem d_M_forge_19 : decode b_M_forge 19 = .ok (.aload_n 0, 1) := by decide +kernel
theorem d_M_forge_20 : decode b_M_forge 20 = .ok (.getfield 75, 3) := by decide +kernel
theorem d_M_forge_23 : decode b_M_forge 23 = .ok (.if_icmp .ge 16, 3) := by decide +kernel
theorem d_M_forge_26 : decode b_M_forge 26 = .ok (.iload_n 2, 1) := by decide +kernel
theorem d_M_forge_27 : decode b_M_forge 27 = .ok (.iconst 1, 1) := by decide +kernel
theorem d_M_forge_28 : decode b_M_forge 28 = .ok (.if_icmp .lt 11, 3) := by decide +kernel
theorem d_M_forge_31 : decode b_M_forge 31 = .ok (.iload_n 2, 1) := by decide +kernel
theorem d_M_forge_32 : decode b_M_forge 32 = .ok (.aload_n 0, 1) := by decide +kernel
theorem d_M_forge_33 : decode b_M_forge 33 = .ok (.getfield 58, 3) := by decide +kernel
theorem d_M_forge_36 : decode b_M_forge 36 = .ok (.if_icmp .lt 7, 3) := by decide +kernel
theorem d_M_forge_39 : decode b_M_forge 39 = .ok (.iconst 1, 1) := by decide +kernel
theorem d_M_forge_40 : decode b_M_forge 40 = .ok (.goto 4, 3) := by decide +kernel
theorem d_M_forge_43 : decode b_M_forge 43 = .ok (.iconst 0, 1) := by decide +kernel
theorem d_M_forge_44 : decode b_M_forge 44 = .ok (.invokevirtual 98, 3) := by decide +kernel
theorem d_M_forge_47 : decode b_M_forge 47 = .ok (.ifCond .eq 4, 3) := by decide +kernel
theorem d_M_forge_50 : decode b_M_forge 50 = .ok (.return_, 1) := by decide +kernel
theorem d_M_forge_51 : decode b_M_forge 51 = .ok (.aload_n 0, 1) := by decide +kernel
theorem d_M_forge_52 : decode b_M_forge 52 = .ok (.getfield 16, 3) := by decide +kernel
theorem d_M_forge_55 : decode b_M_forge 55 = .ok (.iload_n 1, 1) := by decide +kernel
theorem d_M_forge_56 : decode b_M_forge 56 = .ok (.iload_n 2, 1) := by decide +kernel
theorem d_M_forge_57 : decode b_M_forge 57 = .ok (.iastore, 1) := by decide +kernel
theorem d_M_forge_58 : decode b_M_forge 58 = .ok (.return_, 1) := by decide +kernel
theorem d_M_corrupt_0 : decode b_M_corrupt 0 = .ok (.aload_n 0, 1) := by decide +kernel
theorem d_M_corrupt_1 : decode b_M_corrupt 1 = .ok (.aload_n 0, 1) := by decide +kernel
theorem d_M_corrupt_2 : decode b_M_corrupt 2 = .ok (.getfield 92, 3) := by decide +kernel
theorem d_M_corrupt_5 : decode b_M_corrupt 5 = .ok (.iconst 1, 1) := by decide +kernel
theorem d_M_corrupt_6 : decode b_M_corrupt 6 = .ok (.if_icmp .eq 15, 3) := by decide +kernel
theorem d_M_corrupt_9 : decode b_M_corrupt 9 = .ok (.aload_n 0, 1) := by decide +kernel
theorem d_M_corrupt_10 : decode b_M_corrupt 10 = .ok (.getfield 92, 3) := by decide +kernel
theorem d_M_corrupt_13 : decode b_M_corrupt 13 = .ok (.iconst 2, 1) := by decide +kernel
theorem d_M_corrupt_14 : decode b_M_corrupt 14 = .ok (.if_icmp .eq 7, 3) := by decide +kernel
theorem d_M_corrupt_17 : decode b_M_corrupt 17 = .ok (.iconst 1, 1) := by decide +kernel
theorem d_M_corrupt_18 : decode b_M_corrupt 18 = .ok (.goto 4, 3) := by decide +kernel
theorem d_M_corrupt_21 : decode b_M_corrupt 21 = .ok (.iconst 0, 1) := by decide +kernel
theorem d_M_corrupt_22 : decode b_M_corrupt 22 = .ok (.aload_n 0, 1) := by decide +kernel
theorem d_M_corrupt_23 : decode b_M_corrupt 23 = .ok (.iload_n 1, 1) := by decide +kernel
theorem d_M_corrupt_24 : decode b_M_corrupt 24 = .ok (.invokevirtual 117, 3) := by decide +kernel
theorem d_M_corrupt_27 : decode b_M_corrupt 27 = .ok (.ifCond .ne 7, 3) := by decide +kernel
theorem d_M_corrupt_30 : decode b_M_corrupt 30 = .ok (.iconst 1, 1) := by decide +kernel
theorem d_M_corrupt_31 : decode b_M_corrupt 31 = .ok (.goto 4, 3) := by decide +kernel
theorem d_M_corrupt_34 : decode b_M_corrupt 34 = .ok (.iconst 0, 1) := by decide +kernel
theorem d_M_corrupt_35 : decode b_M_corrupt 35 = .ok (.invokevirtual 98, 3) := by decide +kernel
theorem d_M_corrupt_38 : decode b_M_corrupt 38 = .ok (.ifCond .ne 12, 3) := by decide +kernel
theorem d_M_corrupt_41 : decode b_M_corrupt 41 = .ok (.aload_n 0, 1) := by decide +kernel
theorem d_M_corrupt_42 : decode b_M_corrupt 42 = .ok (.getfield 19, 3) := by decide +kernel
theorem d_M_corrupt_45 : decode b_M_corrupt 45 = .ok (.iload_n 1, 1) := by decide +kernel
theorem d_M_corrupt_46 : decode b_M_corrupt 46 = .ok (.baload, 1) := by decide +kernel
theorem d_M_corrupt_47 : decode b_M_corrupt 47 = .ok (.ifCond .eq 5, 3) := by decide +kernel
theorem d_M_corrupt_50 : decode b_M_corrupt 50 = .ok (.iconst 0, 1) := by decide +kernel
theorem d_M_corrupt_51 : decode b_M_corrupt 51 = .ok (.ireturn, 1) := by decide +kernel
theorem d_M_corrupt_52 : decode b_M_corrupt 52 = .ok (.aload_n 0, 1) := by decide +kernel
theorem d_M_corrupt_53 : decode b_M_corrupt 53 = .ok (.getfield 19, 3) := by decide +kernel
theorem d_M_corrupt_56 : decode b_M_corrupt 56 = .ok (.iload_n 1, 1) := by decide +kernel
theorem d_M_corrupt_57 : decode b_M_corrupt 57 = .ok (.iconst 1, 1) := by decide +kernel
theorem d_M_corrupt_58 : decode b_M_corrupt 58 = .ok (.bastore, 1) := by decide +kernel
theorem d_M_corrupt_59 : decode b_M_corrupt 59 = .ok (.iconst 1, 1) := by decide +kernel
theorem d_M_corrupt_60 : decode b_M_corrupt 60 = .ok (.ireturn, 1) := by decide +kernel
theorem d_M_accuse_0 : decode b_M_accuse 0 = .ok (.aload_n 0, 1) := by decide +kernel
theorem d_M_accuse_1 : decode b_M_accuse 1 = .ok (.aload_n 0, 1) := by decide +kernel
theorem d_M_accuse_2 : decode b_M_accuse 2 = .ok (.getfield 92, 3) := by decide +kernel
theorem d_M_accuse_5 : decode b_M_accuse 5 = .ok (.iconst 3, 1) := by decide +kernel
theorem d_M_accuse_6 : decode b_M_accuse 6 = .ok (.if_icmp .eq 7, 3) := by decide +kernel
theorem d_M_accuse_9 : decode b_M_accuse 9 = .ok (.iconst 1, 1) := by decide +kernel
theorem d_M_accuse_10 : decode b_M_accuse 10 = .ok (.goto 4, 3) := by decide +kernel
theorem d_M_accuse_13 : decode b_M_accuse 13 = .ok (.iconst 0, 1) := by decide +kernel
theorem d_M_accuse_14 : decode b_M_accuse 14 = .ok (.aload_n 0, 1) := by decide +kernel
theorem d_M_accuse_15 : decode b_M_accuse 15 = .ok (.iload_n 1, 1) := by decide +kernel
theorem d_M_accuse_16 : decode b_M_accuse 16 = .ok (.invokevirtual 117, 3) := by decide +kernel
theorem d_M_accuse_19 : decode b_M_accuse 19 = .ok (.ifCond .ne 7, 3) := by decide +kernel
theorem d_M_accuse_22 : decode b_M_accuse 22 = .ok (.iconst 1, 1) := by decide +kernel
theorem d_M_accuse_23 : decode b_M_accuse 23 = .ok (.goto 4, 3) := by decide +kernel
theorem d_M_accuse_26 : decode b_M_accuse 26 = .ok (.iconst 0, 1) := by decide +kernel
theorem d_M_accuse_27 : decode b_M_accuse 27 = .ok (.invokevirtual 98, 3) := by decide +kernel
theorem d_M_accuse_30 : decode b_M_accuse 30 = .ok (.ifCond .ne 21, 3) := by decide +kernel
theorem d_M_accuse_33 : decode b_M_accuse 33 = .ok (.aload_n 0, 1) := by decide +kernel
theorem d_M_accuse_34 : decode b_M_accuse 34 = .ok (.getfield 19, 3) := by decide +kernel
theorem d_M_accuse_37 : decode b_M_accuse 37 = .ok (.iload_n 1, 1) := by decide +kernel
theorem d_M_accuse_38 : decode b_M_accuse 38 = .ok (.baload, 1) := by decide +kernel
theorem d_M_accuse_39 : decode b_M_accuse 39 = .ok (.ifCond .eq 12, 3) := by decide +kernel
theorem d_M_accuse_42 : decode b_M_accuse 42 = .ok (.aload_n 0, 1) := by decide +kernel
theorem d_M_accuse_43 : decode b_M_accuse 43 = .ok (.getfield 23, 3) := by decide +kernel
theorem d_M_accuse_46 : decode b_M_accuse 46 = .ok (.iload_n 1, 1) := by decide +kernel
theorem d_M_accuse_47 : decode b_M_accuse 47 = .ok (.baload, 1) := by decide +kernel
theorem d_M_accuse_48 : decode b_M_accuse 48 = .ok (.ifCond .eq 5, 3) := by decide +kernel
theorem d_M_accuse_51 : decode b_M_accuse 51 = .ok (.iconst 0, 1) := by decide +kernel
theorem d_M_accuse_52 : decode b_M_accuse 52 = .ok (.ireturn, 1) := by decide +kernel
theorem d_M_accuse_53 : decode b_M_accuse 53 = .ok (.aload_n 0, 1) := by decide +kernel
theorem d_M_accuse_54 : decode b_M_accuse 54 = .ok (.getfield 23, 3) := by decide +kernel
theorem d_M_accuse_57 : decode b_M_accuse 57 = .ok (.iload_n 1, 1) := by decide +kernel
theorem d_M_accuse_58 : decode b_M_accuse 58 = .ok (.iconst 1, 1) := by decide +kernel
theorem d_M_accuse_59 : decode b_M_accuse 59 = .ok (.bastore, 1) := by decide +kernel
theorem d_M_accuse_60 : decode b_M_accuse 60 = .ok (.iconst 1, 1) := by decide +kernel
theorem d_M_accuse_61 : decode b_M_accuse 61 = .ok (.ireturn, 1) := by decide +kernel
theorem d_M_answer_0 : decode b_M_answer 0 = .ok (.aload_n 0, 1) := by decide +kernel
theorem d_M_answer_1 : decode b_M_answer 1 = .ok (.aload_n 0, 1) := by decide +kernel
theorem d_M_answer_2 : decode b_M_answer 2 = .ok (.getfield 92, 3) := by decide +kernel
theorem d_M_answer_5 : decode b_M_answer 5 = .ok (.iconst 4, 1) := by decide +kernel
theorem d_M_answer_6 : decode b_M_answer 6 = .ok (.if_icmp .eq 7, 3) := by decide +kernel
theorem d_M_answer_9 : decode b_M_answer 9 = .ok (.iconst 1, 1) := by decide +kernel
theorem d_M_answer_10 : decode b_M_answer 10 = .ok (.goto 4, 3) := by decide +kernel
theorem d_M_answer_13 : decode b_M_answer 13 = .ok (.iconst 0, 1) := by decide +kernel
theorem d_M_answer_14 : decode b_M_answer 14 = .ok (.aload_n 0, 1) := by decide +kernel
theorem d_M_answer_15 : decode b_M_answer 15 = .ok (.iload_n 1, 1) := by decide +kernel
theorem d_M_answer_16 : decode b_M_answer 16 = .ok (.invokevirtual 117, 3) := by decide +kernel
theorem d_M_answer_19 : decode b_M_answer 19 = .ok (.ifCond .ne 7, 3) := by decide +kernel
theorem d_M_answer_22 : decode b_M_answer 22 = .ok (.iconst 1, 1) := by decide +kernel
theorem d_M_answer_23 : decode b_M_answer 23 = .ok (.goto 4, 3) := by decide +kernel
theorem d_M_answer_26 : decode b_M_answer 26 = .ok (.iconst 0, 1) := by decide +kernel
theorem d_M_answer_27 : decode b_M_answer 27 = .ok (.invokevirtual 98, 3) := by decide +kernel
theorem d_M_answer_30 : decode b_M_answer 30 = .ok (.ifCond .eq 5, 3) := by decide +kernel
theorem d_M_answer_33 : decode b_M_answer 33 = .ok (.iconst 0, 1) := by decide +kernel
theorem d_M_answer_34 : decode b_M_answer 34 = .ok (.ireturn, 1) := by decide +kernel
theorem d_M_answer_35 : decode b_M_answer 35 = .ok (.aload_n 0, 1) := by decide +kernel
theorem d_M_answer_36 : decode b_M_answer 36 = .ok (.getfield 23, 3) := by decide +kernel
theorem d_M_answer_39 : decode b_M_answer 39 = .ok (.iload_n 1, 1) := by decide +kernel
theorem d_M_answer_40 : decode b_M_answer 40 = .ok (.baload, 1) := by decide +kernel
theorem d_M_answer_41 : decode b_M_answer 41 = .ok (.ifCond .ne 10, 3) := by decide +kernel
theorem d_M_answer_44 : decode b_M_answer 44 = .ok (.aload_n 0, 1) := by decide +kernel
theorem d_M_answer_45 : decode b_M_answer 45 = .ok (.iconst 3, 1) := by decide +kernel
theorem d_M_answer_46 : decode b_M_answer 46 = .ok (.putfield 85, 3) := by decide +kernel
theorem d_M_answer_49 : decode b_M_answer 49 = .ok (.iconst 0, 1) := by decide +kernel
theorem d_M_answer_50 : decode b_M_answer 50 = .ok (.ireturn, 1) := by decide +kernel
theorem d_M_answer_51 : decode b_M_answer 51 = .ok (.aload_n 0, 1) := by decide +kernel
theorem d_M_answer_52 : decode b_M_answer 52 = .ok (.getfield 26, 3) := by decide +kernel
theorem d_M_answer_55 : decode b_M_answer 55 = .ok (.iload_n 1, 1) := by decide +kernel
theorem d_M_answer_56 : decode b_M_answer 56 = .ok (.iconst 1, 1) := by decide +kernel
theorem d_M_answer_57 : decode b_M_answer 57 = .ok (.bastore, 1) := by decide +kernel
theorem d_M_answer_58 : decode b_M_answer 58 = .ok (.aload_n 0, 1) := by decide +kernel
theorem d_M_answer_59 : decode b_M_answer 59 = .ok (.getfield 29, 3) := by decide +kernel
theorem d_M_answer_62 : decode b_M_answer 62 = .ok (.iload_n 1, 1) := by decide +kernel
theorem d_M_answer_63 : decode b_M_answer 63 = .ok (.aload_n 0, 1) := by decide +kernel
theorem d_M_answer_64 : decode b_M_answer 64 = .ok (.iload_n 2, 1) := by decide +kernel
theorem d_M_answer_65 : decode b_M_answer 65 = .ok (.invokevirtual 102, 3) := by decide +kernel
theorem d_M_answer_68 : decode b_M_answer 68 = .ok (.iastore, 1) := by decide +kernel
theorem d_M_answer_69 : decode b_M_answer 69 = .ok (.aload_n 0, 1) := by decide +kernel
theorem d_M_answer_70 : decode b_M_answer 70 = .ok (.getfield 32, 3) := by decide +kernel
theorem d_M_answer_73 : decode b_M_answer 73 = .ok (.iload_n 1, 1) := by decide +kernel
theorem d_M_answer_74 : decode b_M_answer 74 = .ok (.aload_n 0, 1) := by decide +kernel
theorem d_M_answer_75 : decode b_M_answer 75 = .ok (.getfield 88, 3) := by decide +kernel
theorem d_M_answer_78 : decode b_M_answer 78 = .ok (.ifCond .eq 11, 3) := by decide +kernel
theorem d_M_answer_81 : decode b_M_answer 81 = .ok (.aload_n 0, 1) := by decide +kernel
theorem d_M_answer_82 : decode b_M_answer 82 = .ok (.iload_n 3, 1) := by decide +kernel
theorem d_M_answer_83 : decode b_M_answer 83 = .ok (.invokevirtual 102, 3) := by decide +kernel
theorem d_M_answer_86 : decode b_M_answer 86 = .ok (.goto 4, 3) := by decide +kernel
theorem d_M_answer_89 : decode b_M_answer 89 = .ok (.iconst 0, 1) := by decide +kernel
theorem d_M_answer_90 : decode b_M_answer 90 = .ok (.iastore, 1) := by decide +kernel
theorem d_M_answer_91 : decode b_M_answer 91 = .ok (.aload_n 0, 1) := by decide +kernel
theorem d_M_answer_92 : decode b_M_answer 92 = .ok (.iload_n 1, 1) := by decide +kernel
theorem d_M_answer_93 : decode b_M_answer 93 = .ok (.aload_n 0, 1) := by decide +kernel
theorem d_M_answer_94 : decode b_M_answer 94 = .ok (.getfield 29, 3) := by decide +kernel
theorem d_M_answer_97 : decode b_M_answer 97 = .ok (.iload_n 1, 1) := by decide +kernel
theorem d_M_answer_98 : decode b_M_answer 98 = .ok (.iaload, 1) := by decide +kernel
theorem d_M_answer_99 : decode b_M_answer 99 = .ok (.aload_n 0, 1) := by decide +kernel
theorem d_M_answer_100 : decode b_M_answer 100 = .ok (.getfield 32, 3) := by decide +kernel
theorem d_M_answer_103 : decode b_M_answer 103 = .ok (.iload_n 1, 1) := by decide +kernel
theorem d_M_answer_104 : decode b_M_answer 104 = .ok (.iaload, 1) := by decide +kernel
theorem d_M_answer_105 : decode b_M_answer 105 = .ok (.invokevirtual 110, 3) := by decide +kernel
theorem d_M_answer_108 : decode b_M_answer 108 = .ok (.ireturn, 1) := by decide +kernel
theorem d_M_lay_0 : decode b_M_lay 0 = .ok (.aload_n 0, 1) := by decide +kernel
theorem d_M_lay_1 : decode b_M_lay 1 = .ok (.iload_n 1, 1) := by decide +kernel
theorem d_M_lay_2 : decode b_M_lay 2 = .ok (.iload_n 2, 1) := by decide +kernel
theorem d_M_lay_3 : decode b_M_lay 3 = .ok (.iload_n 3, 1) := by decide +kernel
theorem d_M_lay_4 : decode b_M_lay 4 = .ok (.invokevirtual 110, 3) := by decide +kernel
theorem d_M_lay_7 : decode b_M_lay 7 = .ok (.ifCond .ne 5, 3) := by decide +kernel
theorem d_M_lay_10 : decode b_M_lay 10 = .ok (.iconst 0, 1) := by decide +kernel
theorem d_M_lay_11 : decode b_M_lay 11 = .ok (.ireturn, 1) := by decide +kernel
theorem d_M_lay_12 : decode b_M_lay 12 = .ok (.aload_n 0, 1) := by decide +kernel
theorem d_M_lay_13 : decode b_M_lay 13 = .ok (.getfield 35, 3) := by decide +kernel
theorem d_M_lay_16 : decode b_M_lay 16 = .ok (.iload_n 1, 1) := by decide +kernel
theorem d_M_lay_17 : decode b_M_lay 17 = .ok (.baload, 1) := by decide +kernel
theorem d_M_lay_18 : decode b_M_lay 18 = .ok (.ifCond .ne 27, 3) := by decide +kernel
theorem d_M_lay_21 : decode b_M_lay 21 = .ok (.aload_n 0, 1) := by decide +kernel
theorem d_M_lay_22 : decode b_M_lay 22 = .ok (.getfield 35, 3) := by decide +kernel
theorem d_M_lay_25 : decode b_M_lay 25 = .ok (.iload_n 1, 1) := by decide +kernel
theorem d_M_lay_26 : decode b_M_lay 26 = .ok (.iconst 1, 1) := by decide +kernel
theorem d_M_lay_27 : decode b_M_lay 27 = .ok (.bastore, 1) := by decide +kernel
theorem d_M_lay_28 : decode b_M_lay 28 = .ok (.aload_n 0, 1) := by decide +kernel
theorem d_M_lay_29 : decode b_M_lay 29 = .ok (.getfield 38, 3) := by decide +kernel
theorem d_M_lay_32 : decode b_M_lay 32 = .ok (.iload_n 1, 1) := by decide +kernel
theorem d_M_lay_33 : decode b_M_lay 33 = .ok (.iload_n 2, 1) := by decide +kernel
theorem d_M_lay_34 : decode b_M_lay 34 = .ok (.iastore, 1) := by decide +kernel
theorem d_M_lay_35 : decode b_M_lay 35 = .ok (.aload_n 0, 1) := by decide +kernel
theorem d_M_lay_36 : decode b_M_lay 36 = .ok (.getfield 41, 3) := by decide +kernel
theorem d_M_lay_39 : decode b_M_lay 39 = .ok (.iload_n 1, 1) := by decide +kernel
theorem d_M_lay_40 : decode b_M_lay 40 = .ok (.iload_n 3, 1) := by decide +kernel
theorem d_M_lay_41 : decode b_M_lay 41 = .ok (.iastore, 1) := by decide +kernel
theorem d_M_lay_42 : decode b_M_lay 42 = .ok (.goto 55, 3) := by decide +kernel
theorem d_M_lay_45 : decode b_M_lay 45 = .ok (.iload_n 3, 1) := by decide +kernel
theorem d_M_lay_46 : decode b_M_lay 46 = .ok (.aload_n 0, 1) := by decide +kernel
theorem d_M_lay_47 : decode b_M_lay 47 = .ok (.getfield 41, 3) := by decide +kernel
theorem d_M_lay_50 : decode b_M_lay 50 = .ok (.iload_n 1, 1) := by decide +kernel
theorem d_M_lay_51 : decode b_M_lay 51 = .ok (.iaload, 1) := by decide +kernel
theorem d_M_lay_52 : decode b_M_lay 52 = .ok (.if_icmp .eq 45, 3) := by decide +kernel
theorem d_M_lay_55 : decode b_M_lay 55 = .ok (.aload_n 0, 1) := by decide +kernel
theorem d_M_lay_56 : decode b_M_lay 56 = .ok (.getfield 95, 3) := by decide +kernel
theorem d_M_lay_59 : decode b_M_lay 59 = .ok (.ifCond .ne 38, 3) := by decide +kernel
theorem d_M_lay_62 : decode b_M_lay 62 = .ok (.aload_n 0, 1) := by decide +kernel
theorem d_M_lay_63 : decode b_M_lay 63 = .ok (.iconst 1, 1) := by decide +kernel
theorem d_M_lay_64 : decode b_M_lay 64 = .ok (.putfield 95, 3) := by decide +kernel
theorem d_M_lay_67 : decode b_M_lay 67 = .ok (.aload_n 0, 1) := by decide +kernel
theorem d_M_lay_68 : decode b_M_lay 68 = .ok (.aload_n 0, 1) := by decide +kernel
theorem d_M_lay_69 : decode b_M_lay 69 = .ok (.aload_n 0, 1) := by decide +kernel
theorem d_M_lay_70 : decode b_M_lay 70 = .ok (.aload_n 0, 1) := by decide +kernel
theorem d_M_lay_71 : decode b_M_lay 71 = .ok (.getfield 38, 3) := by decide +kernel
theorem d_M_lay_74 : decode b_M_lay 74 = .ok (.iload_n 1, 1) := by decide +kernel
theorem d_M_lay_75 : decode b_M_lay 75 = .ok (.iaload, 1) := by decide +kernel
theorem d_M_lay_76 : decode b_M_lay 76 = .ok (.iload_n 2, 1) := by decide +kernel
theorem d_M_lay_77 : decode b_M_lay 77 = .ok (.invokevirtual 120, 3) := by decide +kernel
theorem d_M_lay_80 : decode b_M_lay 80 = .ok (.aload_n 0, 1) := by decide +kernel
theorem d_M_lay_81 : decode b_M_lay 81 = .ok (.iload_n 3, 1) := by decide +kernel
theorem d_M_lay_82 : decode b_M_lay 82 = .ok (.aload_n 0, 1) := by decide +kernel
theorem d_M_lay_83 : decode b_M_lay 83 = .ok (.getfield 41, 3) := by decide +kernel
theorem d_M_lay_86 : decode b_M_lay 86 = .ok (.iload_n 1, 1) := by decide +kernel
theorem d_M_lay_87 : decode b_M_lay 87 = .ok (.iaload, 1) := by decide +kernel
theorem d_M_lay_88 : decode b_M_lay 88 = .ok (.invokevirtual 120, 3) := by decide +kernel
theorem d_M_lay_91 : decode b_M_lay 91 = .ok (.invokevirtual 123, 3) := by decide +kernel
theorem d_M_lay_94 : decode b_M_lay 94 = .ok (.putfield 126, 3) := by decide +kernel
theorem d_M_lay_97 : decode b_M_lay 97 = .ok (.iconst 1, 1) := by decide +kernel
theorem d_M_lay_98 : decode b_M_lay 98 = .ok (.ireturn, 1) := by decide +kernel
theorem d_M_open_0 : decode b_M_open 0 = .ok (.aload_n 0, 1) := by decide +kernel
theorem d_M_open_1 : decode b_M_open 1 = .ok (.aload_n 0, 1) := by decide +kernel
theorem d_M_open_2 : decode b_M_open 2 = .ok (.getfield 92, 3) := by decide +kernel
theorem d_M_open_5 : decode b_M_open 5 = .ok (.iconst 5, 1) := by decide +kernel
theorem d_M_open_6 : decode b_M_open 6 = .ok (.if_icmp .eq 7, 3) := by decide +kernel
theorem d_M_open_9 : decode b_M_open 9 = .ok (.iconst 1, 1) := by decide +kernel
theorem d_M_open_10 : decode b_M_open 10 = .ok (.goto 4, 3) := by decide +kernel
theorem d_M_open_13 : decode b_M_open 13 = .ok (.iconst 0, 1) := by decide +kernel
theorem d_M_open_14 : decode b_M_open 14 = .ok (.aload_n 0, 1) := by decide +kernel
theorem d_M_open_15 : decode b_M_open 15 = .ok (.iload_n 1, 1) := by decide +kernel
theorem d_M_open_16 : decode b_M_open 16 = .ok (.invokevirtual 117, 3) := by decide +kernel
theorem d_M_open_19 : decode b_M_open 19 = .ok (.ifCond .ne 7, 3) := by decide +kernel
theorem d_M_open_22 : decode b_M_open 22 = .ok (.iconst 1, 1) := by decide +kernel
theorem d_M_open_23 : decode b_M_open 23 = .ok (.goto 4, 3) := by decide +kernel
theorem d_M_open_26 : decode b_M_open 26 = .ok (.iconst 0, 1) := by decide +kernel
theorem d_M_open_27 : decode b_M_open 27 = .ok (.invokevirtual 98, 3) := by decide +kernel
theorem d_M_open_30 : decode b_M_open 30 = .ok (.ifCond .ne 27, 3) := by decide +kernel
theorem d_M_open_33 : decode b_M_open 33 = .ok (.aload_n 0, 1) := by decide +kernel
theorem d_M_open_34 : decode b_M_open 34 = .ok (.iload_n 1, 1) := by decide +kernel
theorem d_M_open_35 : decode b_M_open 35 = .ok (.aload_n 0, 1) := by decide +kernel
theorem d_M_open_36 : decode b_M_open 36 = .ok (.getfield 29, 3) := by decide +kernel
theorem d_M_open_39 : decode b_M_open 39 = .ok (.iload_n 1, 1) := by decide +kernel
theorem d_M_open_40 : decode b_M_open 40 = .ok (.iaload, 1) := by decide +kernel
theorem d_M_open_41 : decode b_M_open 41 = .ok (.aload_n 0, 1) := by decide +kernel
theorem d_M_open_42 : decode b_M_open 42 = .ok (.getfield 32, 3) := by decide +kernel
theorem d_M_open_45 : decode b_M_open 45 = .ok (.iload_n 1, 1) := by decide +kernel
theorem d_M_open_46 : decode b_M_open 46 = .ok (.iaload, 1) := by decide +kernel
theorem d_M_open_47 : decode b_M_open 47 = .ok (.invokevirtual 129, 3) := by decide +kernel
theorem d_M_open_50 : decode b_M_open 50 = .ok (.ifCond .eq 7, 3) := by decide +kernel
theorem d_M_open_53 : decode b_M_open 53 = .ok (.iconst 1, 1) := by decide +kernel
theorem d_M_open_54 : decode b_M_open 54 = .ok (.goto 4, 3) := by decide +kernel
theorem d_M_open_57 : decode b_M_open 57 = .ok (.iconst 0, 1) := by decide +kernel
theorem d_M_open_58 : decode b_M_open 58 = .ok (.ireturn, 1) := by decide +kernel
theorem d_M_show_0 : decode b_M_show 0 = .ok (.aload_n 0, 1) := by decide +kernel
theorem d_M_show_1 : decode b_M_show 1 = .ok (.aload_n 0, 1) := by decide +kernel
theorem d_M_show_2 : decode b_M_show 2 = .ok (.getfield 92, 3) := by decide +kernel
theorem d_M_show_5 : decode b_M_show 5 = .ok (.iconst 5, 1) := by decide +kernel
theorem d_M_show_6 : decode b_M_show 6 = .ok (.if_icmp .eq 7, 3) := by decide +kernel
theorem d_M_show_9 : decode b_M_show 9 = .ok (.iconst 1, 1) := by decide +kernel
theorem d_M_show_10 : decode b_M_show 10 = .ok (.goto 4, 3) := by decide +kernel
theorem d_M_show_13 : decode b_M_show 13 = .ok (.iconst 0, 1) := by decide +kernel
theorem d_M_show_14 : decode b_M_show 14 = .ok (.aload_n 0, 1) := by decide +kernel
theorem d_M_show_15 : decode b_M_show 15 = .ok (.iload_n 1, 1) := by decide +kernel
theorem d_M_show_16 : decode b_M_show 16 = .ok (.invokevirtual 117, 3) := by decide +kernel
theorem d_M_show_19 : decode b_M_show 19 = .ok (.ifCond .ne 7, 3) := by decide +kernel
theorem d_M_show_22 : decode b_M_show 22 = .ok (.iconst 1, 1) := by decide +kernel
theorem d_M_show_23 : decode b_M_show 23 = .ok (.goto 4, 3) := by decide +kernel
theorem d_M_show_26 : decode b_M_show 26 = .ok (.iconst 0, 1) := by decide +kernel
theorem d_M_show_27 : decode b_M_show 27 = .ok (.invokevirtual 98, 3) := by decide +kernel
theorem d_M_show_30 : decode b_M_show 30 = .ok (.ifCond .ne 25, 3) := by decide +kernel
theorem d_M_show_33 : decode b_M_show 33 = .ok (.aload_n 0, 1) := by decide +kernel
theorem d_M_show_34 : decode b_M_show 34 = .ok (.iload_n 1, 1) := by decide +kernel
theorem d_M_show_35 : decode b_M_show 35 = .ok (.aload_n 0, 1) := by decide +kernel
theorem d_M_show_36 : decode b_M_show 36 = .ok (.iload_n 2, 1) := by decide +kernel
theorem d_M_show_37 : decode b_M_show 37 = .ok (.invokevirtual 102, 3) := by decide +kernel
theorem d_M_show_40 : decode b_M_show 40 = .ok (.aload_n 0, 1) := by decide +kernel
theorem d_M_show_41 : decode b_M_show 41 = .ok (.iload_n 3, 1) := by decide +kernel
theorem d_M_show_42 : decode b_M_show 42 = .ok (.invokevirtual 102, 3) := by decide +kernel
theorem d_M_show_45 : decode b_M_show 45 = .ok (.invokevirtual 129, 3) := by decide +kernel
theorem d_M_show_48 : decode b_M_show 48 = .ok (.ifCond .eq 7, 3) := by decide +kernel
theorem d_M_show_51 : decode b_M_show 51 = .ok (.iconst 1, 1) := by decide +kernel
theorem d_M_show_52 : decode b_M_show 52 = .ok (.goto 4, 3) := by decide +kernel
theorem d_M_show_55 : decode b_M_show 55 = .ok (.iconst 0, 1) := by decide +kernel
theorem d_M_show_56 : decode b_M_show 56 = .ok (.ireturn, 1) := by decide +kernel
theorem d_M_secret_0 : decode b_M_secret 0 = .ok (.aload_n 0, 1) := by decide +kernel
theorem d_M_secret_1 : decode b_M_secret 1 = .ok (.aload_n 0, 1) := by decide +kernel
theorem d_M_secret_2 : decode b_M_secret 2 = .ok (.getfield 92, 3) := by decide +kernel
theorem d_M_secret_5 : decode b_M_secret 5 = .ok (.iconst 5, 1) := by decide +kernel
theorem d_M_secret_6 : decode b_M_secret 6 = .ok (.if_icmp .eq 7, 3) := by decide +kernel
theorem d_M_secret_9 : decode b_M_secret 9 = .ok (.iconst 1, 1) := by decide +kernel
theorem d_M_secret_10 : decode b_M_secret 10 = .ok (.goto 4, 3) := by decide +kernel
theorem d_M_secret_13 : decode b_M_secret 13 = .ok (.iconst 0, 1) := by decide +kernel
theorem d_M_secret_14 : decode b_M_secret 14 = .ok (.iconst 0, 1) := by decide +kernel
theorem d_M_secret_15 : decode b_M_secret 15 = .ok (.invokevirtual 98, 3) := by decide +kernel
theorem d_M_secret_18 : decode b_M_secret 18 = .ok (.ifCond .eq 5, 3) := by decide +kernel
theorem d_M_secret_21 : decode b_M_secret 21 = .ok (.iconst 0, 1) := by decide +kernel
theorem d_M_secret_22 : decode b_M_secret 22 = .ok (.ireturn, 1) := by decide +kernel
theorem d_M_secret_23 : decode b_M_secret 23 = .ok (.iconst 0, 1) := by decide +kernel
theorem d_M_secret_24 : decode b_M_secret 24 = .ok (.istore_n 1, 1) := by decide +kernel
theorem d_M_secret_25 : decode b_M_secret 25 = .ok (.iconst 1, 1) := by decide +kernel
theorem d_M_secret_26 : decode b_M_secret 26 = .ok (.istore_n 2, 1) := by decide +kernel
theorem d_M_secret_27 : decode b_M_secret 27 = .ok (.iload_n 2, 1) := by decide +kernel
theorem d_M_secret_28 : decode b_M_secret 28 = .ok (.aload_n 0, 1) := by decide +kernel
theorem d_M_secret_29 : decode b_M_secret 29 = .ok (.getfield 82, 3) := by decide +kernel
theorem d_M_secret_32 : decode b_M_secret 32 = .ok (.if_icmp .gt 48, 3) := by decide +kernel
theorem d_M_secret_35 : decode b_M_secret 35 = .ok (.iload_n 1, 1) := by decide +kernel
theorem d_M_secret_36 : decode b_M_secret 36 = .ok (.aload_n 0, 1) := by decide +kernel
theorem d_M_secret_37 : decode b_M_secret 37 = .ok (.getfield 75, 3) := by decide +kernel
theorem d_M_secret_40 : decode b_M_secret 40 = .ok (.if_icmp .ge 40, 3) := by decide +kernel
theorem d_M_secret_43 : decode b_M_secret 43 = .ok (.aload_n 0, 1) := by decide +kernel
theorem d_M_secret_44 : decode b_M_secret 44 = .ok (.getfield 35, 3) := by decide +kernel
theorem d_M_secret_47 : decode b_M_secret 47 = .ok (.iload_n 2, 1) := by decide +kernel
theorem d_M_secret_48 : decode b_M_secret 48 = .ok (.baload, 1) := by decide +kernel
theorem d_M_secret_49 : decode b_M_secret 49 = .ok (.ifCond .eq 25, 3) := by decide +kernel
theorem d_M_secret_52 : decode b_M_secret 52 = .ok (.aload_n 0, 1) := by decide +kernel
theorem d_M_secret_53 : decode b_M_secret 53 = .ok (.getfield 44, 3) := by decide +kernel
theorem d_M_secret_56 : decode b_M_secret 56 = .ok (.iload_n 1, 1) := by decide +kernel
theorem d_M_secret_57 : decode b_M_secret 57 = .ok (.iload_n 2, 1) := by decide +kernel
theorem d_M_secret_58 : decode b_M_secret 58 = .ok (.iastore, 1) := by decide +kernel
theorem d_M_secret_59 : decode b_M_secret 59 = .ok (.aload_n 0, 1) := by decide +kernel
theorem d_M_secret_60 : decode b_M_secret 60 = .ok (.getfield 47, 3) := by decide +kernel
theorem d_M_secret_63 : decode b_M_secret 63 = .ok (.iload_n 1, 1) := by decide +kernel
theorem d_M_secret_64 : decode b_M_secret 64 = .ok (.aload_n 0, 1) := by decide +kernel
theorem d_M_secret_65 : decode b_M_secret 65 = .ok (.getfield 38, 3) := by decide +kernel
theorem d_M_secret_68 : decode b_M_secret 68 = .ok (.iload_n 2, 1) := by decide +kernel
theorem d_M_secret_69 : decode b_M_secret 69 = .ok (.iaload, 1) := by decide +kernel
theorem d_M_secret_70 : decode b_M_secret 70 = .ok (.iastore, 1) := by decide +kernel
theorem d_M_secret_71 : decode b_M_secret 71 = .ok (.iinc 1 1, 3) := by decide +kernel
theorem d_M_secret_74 : decode b_M_secret 74 = .ok (.iinc 2 1, 3) := by decide +kernel
theorem d_M_secret_77 : decode b_M_secret 77 = .ok (.goto (-50), 3) := by decide +kernel
theorem d_M_secret_80 : decode b_M_secret 80 = .ok (.iload_n 1, 1) := by decide +kernel
theorem d_M_secret_81 : decode b_M_secret 81 = .ok (.aload_n 0, 1) := by decide +kernel
theorem d_M_secret_82 : decode b_M_secret 82 = .ok (.getfield 75, 3) := by decide +kernel
theorem d_M_secret_85 : decode b_M_secret 85 = .ok (.if_icmp .ge 10, 3) := by decide +kernel
theorem d_M_secret_88 : decode b_M_secret 88 = .ok (.aload_n 0, 1) := by decide +kernel
theorem d_M_secret_89 : decode b_M_secret 89 = .ok (.iconst 2, 1) := by decide +kernel
theorem d_M_secret_90 : decode b_M_secret 90 = .ok (.putfield 85, 3) := by decide +kernel
theorem d_M_secret_93 : decode b_M_secret 93 = .ok (.iconst 0, 1) := by decide +kernel
theorem d_M_secret_94 : decode b_M_secret 94 = .ok (.ireturn, 1) := by decide +kernel
theorem d_M_secret_95 : decode b_M_secret 95 = .ok (.aload_n 0, 1) := by decide +kernel
theorem d_M_secret_96 : decode b_M_secret 96 = .ok (.invokevirtual 132, 3) := by decide +kernel
theorem d_M_secret_99 : decode b_M_secret 99 = .ok (.ireturn, 1) := by decide +kernel
theorem d_M_atZero_0 : decode b_M_atZero 0 = .ok (.iconst 1, 1) := by decide +kernel
theorem d_M_atZero_1 : decode b_M_atZero 1 = .ok (.istore_n 1, 1) := by decide +kernel
theorem d_M_atZero_2 : decode b_M_atZero 2 = .ok (.iload_n 1, 1) := by decide +kernel
theorem d_M_atZero_3 : decode b_M_atZero 3 = .ok (.aload_n 0, 1) := by decide +kernel
theorem d_M_atZero_4 : decode b_M_atZero 4 = .ok (.getfield 75, 3) := by decide +kernel
theorem d_M_atZero_7 : decode b_M_atZero 7 = .ok (.if_icmp .ge 74, 3) := by decide +kernel
theorem d_M_atZero_10 : decode b_M_atZero 10 = .ok (.aload_n 0, 1) := by decide +kernel
theorem d_M_atZero_11 : decode b_M_atZero 11 = .ok (.getfield 75, 3) := by decide +kernel
theorem d_M_atZero_14 : decode b_M_atZero 14 = .ok (.iconst 1, 1) := by decide +kernel
theorem d_M_atZero_15 : decode b_M_atZero 15 = .ok (.isub, 1) := by decide +kernel
theorem d_M_atZero_16 : decode b_M_atZero 16 = .ok (.istore_n 2, 1) := by decide +kernel
theorem d_M_atZero_17 : decode b_M_atZero 17 = .ok (.iload_n 2, 1) := by decide +kernel
theorem d_M_atZero_18 : decode b_M_atZero 18 = .ok (.iload_n 1, 1) := by decide +kernel
theorem d_M_atZero_19 : decode b_M_atZero 19 = .ok (.if_icmp .lt 56, 3) := by decide +kernel
theorem d_M_atZero_22 : decode b_M_atZero 22 = .ok (.aload_n 0, 1) := by decide +kernel
theorem d_M_atZero_23 : decode b_M_atZero 23 = .ok (.getfield 47, 3) := by decide +kernel
theorem d_M_atZero_26 : decode b_M_atZero 26 = .ok (.iload_n 2, 1) := by decide +kernel
theorem d_M_atZero_27 : decode b_M_atZero 27 = .ok (.aload_n 0, 1) := by decide +kernel
theorem d_M_atZero_28 : decode b_M_atZero 28 = .ok (.aload_n 0, 1) := by decide +kernel
theorem d_M_atZero_29 : decode b_M_atZero 29 = .ok (.aload_n 0, 1) := by decide +kernel
theorem d_M_atZero_30 : decode b_M_atZero 30 = .ok (.getfield 47, 3) := by decide +kernel
theorem d_M_atZero_33 : decode b_M_atZero 33 = .ok (.iload_n 2, 1) := by decide +kernel
theorem d_M_atZero_34 : decode b_M_atZero 34 = .ok (.iaload, 1) := by decide +kernel
theorem d_M_atZero_35 : decode b_M_atZero 35 = .ok (.aload_n 0, 1) := by decide +kernel
theorem d_M_atZero_36 : decode b_M_atZero 36 = .ok (.getfield 47, 3) := by decide +kernel
theorem d_M_atZero_39 : decode b_M_atZero 39 = .ok (.iload_n 2, 1) := by decide +kernel
theorem d_M_atZero_40 : decode b_M_atZero 40 = .ok (.iconst 1, 1) := by decide +kernel
theorem d_M_atZero_41 : decode b_M_atZero 41 = .ok (.isub, 1) := by decide +kernel
theorem d_M_atZero_42 : decode b_M_atZero 42 = .ok (.iaload, 1) := by decide +kernel
theorem d_M_atZero_43 : decode b_M_atZero 43 = .ok (.invokevirtual 120, 3) := by decide +kernel
theorem d_M_atZero_46 : decode b_M_atZero 46 = .ok (.aload_n 0, 1) := by decide +kernel
theorem d_M_atZero_47 : decode b_M_atZero 47 = .ok (.aload_n 0, 1) := by decide +kernel
theorem d_M_atZero_48 : decode b_M_atZero 48 = .ok (.getfield 44, 3) := by decide +kernel
theorem d_M_atZero_51 : decode b_M_atZero 51 = .ok (.iload_n 2, 1) := by decide +kernel
theorem d_M_atZero_52 : decode b_M_atZero 52 = .ok (.iaload, 1) := by decide +kernel
theorem d_M_atZero_53 : decode b_M_atZero 53 = .ok (.aload_n 0, 1) := by decide +kernel
theorem d_M_atZero_54 : decode b_M_atZero 54 = .ok (.getfield 44, 3) := by decide +kernel
theorem d_M_atZero_57 : decode b_M_atZero 57 = .ok (.iload_n 2, 1) := by decide +kernel
theorem d_M_atZero_58 : decode b_M_atZero 58 = .ok (.iload_n 1, 1) := by decide +kernel
theorem d_M_atZero_59 : decode b_M_atZero 59 = .ok (.isub, 1) := by decide +kernel
theorem d_M_atZero_60 : decode b_M_atZero 60 = .ok (.iaload, 1) := by decide +kernel
theorem d_M_atZero_61 : decode b_M_atZero 61 = .ok (.isub, 1) := by decide +kernel
theorem d_M_atZero_62 : decode b_M_atZero 62 = .ok (.invokevirtual 102, 3) := by decide +kernel
theorem d_M_atZero_65 : decode b_M_atZero 65 = .ok (.invokevirtual 123, 3) := by decide +kernel
theorem d_M_atZero_68 : decode b_M_atZero 68 = .ok (.iastore, 1) := by decide +kernel
theorem d_M_atZero_69 : decode b_M_atZero 69 = .ok (.iinc 2 (-1), 3) := by decide +kernel
theorem d_M_atZero_72 : decode b_M_atZero 72 = .ok (.goto (-55), 3) := by decide +kernel
theorem d_M_atZero_75 : decode b_M_atZero 75 = .ok (.iinc 1 1, 3) := by decide +kernel
theorem d_M_atZero_78 : decode b_M_atZero 78 = .ok (.goto (-76), 3) := by decide +kernel
theorem d_M_atZero_81 : decode b_M_atZero 81 = .ok (.iconst 0, 1) := by decide +kernel
theorem d_M_atZero_82 : decode b_M_atZero 82 = .ok (.istore_n 1, 1) := by decide +kernel
theorem d_M_atZero_83 : decode b_M_atZero 83 = .ok (.aload_n 0, 1) := by decide +kernel
theorem d_M_atZero_84 : decode b_M_atZero 84 = .ok (.getfield 75, 3) := by decide +kernel
theorem d_M_atZero_87 : decode b_M_atZero 87 = .ok (.iconst 1, 1) := by decide +kernel
theorem d_M_atZero_88 : decode b_M_atZero 88 = .ok (.isub, 1) := by decide +kernel
theorem d_M_atZero_89 : decode b_M_atZero 89 = .ok (.istore_n 2, 1) := by decide +kernel
theorem d_M_atZero_90 : decode b_M_atZero 90 = .ok (.iload_n 2, 1) := by decide +kernel
theorem d_M_atZero_91 : decode b_M_atZero 91 = .ok (.ifCond .lt 47, 3) := by decide +kernel
theorem d_M_atZero_94 : decode b_M_atZero 94 = .ok (.iload_n 1, 1) := by decide +kernel
theorem d_M_atZero_95 : decode b_M_atZero 95 = .ok (.aload_n 0, 1) := by decide +kernel
theorem d_M_atZero_96 : decode b_M_atZero 96 = .ok (.aload_n 0, 1) := by decide +kernel
theorem d_M_atZero_97 : decode b_M_atZero 97 = .ok (.getfield 44, 3) := by decide +kernel
theorem d_M_atZero_100 : decode b_M_atZero 100 = .ok (.iload_n 2, 1) := by decide +kernel
theorem d_M_atZero_101 : decode b_M_atZero 101 = .ok (.iaload, 1) := by decide +kernel
theorem d_M_atZero_102 : decode b_M_atZero 102 = .ok (.ineg, 1) := by decide +kernel
theorem d_M_atZero_103 : decode b_M_atZero 103 = .ok (.invokevirtual 102, 3) := by decide +kernel
theorem d_M_atZero_106 : decode b_M_atZero 106 = .ok (.aload_n 0, 1) := by decide +kernel
theorem d_M_atZero_107 : decode b_M_atZero 107 = .ok (.getfield 62, 3) := by decide +kernel
theorem d_M_atZero_110 : decode b_M_atZero 110 = .ok (.invokestatic 72, 3) := by decide +kernel
theorem d_M_atZero_113 : decode b_M_atZero 113 = .ok (.istore_n 3, 1) := by decide +kernel
theorem d_M_atZero_114 : decode b_M_atZero 114 = .ok (.iload_n 3, 1) := by decide +kernel
theorem d_M_atZero_115 : decode b_M_atZero 115 = .ok (.i2l, 1) := by decide +kernel
theorem d_M_atZero_116 : decode b_M_atZero 116 = .ok (.aload_n 0, 1) := by decide +kernel
theorem d_M_atZero_117 : decode b_M_atZero 117 = .ok (.getfield 47, 3) := by decide +kernel
theorem d_M_atZero_120 : decode b_M_atZero 120 = .ok (.iload_n 2, 1) := by decide +kernel
theorem d_M_atZero_121 : decode b_M_atZero 121 = .ok (.iaload, 1) := by decide +kernel
theorem d_M_atZero_122 : decode b_M_atZero 122 = .ok (.i2l, 1) := by decide +kernel
theorem d_M_atZero_123 : decode b_M_atZero 123 = .ok (.ladd, 1) := by decide +kernel
theorem d_M_atZero_124 : decode b_M_atZero 124 = .ok (.aload_n 0, 1) := by decide +kernel
theorem d_M_atZero_125 : decode b_M_atZero 125 = .ok (.getfield 62, 3) := by decide +kernel
theorem d_M_atZero_128 : decode b_M_atZero 128 = .ok (.i2l, 1) := by decide +kernel
theorem d_M_atZero_129 : decode b_M_atZero 129 = .ok (.lrem, 1) := by decide +kernel
theorem d_M_atZero_130 : decode b_M_atZero 130 = .ok (.l2i, 1) := by decide +kernel
theorem d_M_atZero_131 : decode b_M_atZero 131 = .ok (.istore_n 1, 1) := by decide +kernel
theorem d_M_atZero_132 : decode b_M_atZero 132 = .ok (.iinc 2 (-1), 3) := by decide +kernel
theorem d_M_atZero_135 : decode b_M_atZero 135 = .ok (.goto (-45), 3) := by decide +kernel
theorem d_M_atZero_138 : decode b_M_atZero 138 = .ok (.iload_n 1, 1) := by decide +kernel
theorem d_M_atZero_139 : decode b_M_atZero 139 = .ok (.ireturn, 1) := by decide +kernel
theorem d_M_relation_0 : decode b_M_relation 0 = .ok (.aload_n 0, 1) := by decide +kernel
theorem d_M_relation_1 : decode b_M_relation 1 = .ok (.aload_n 0, 1) := by decide +kernel
theorem d_M_relation_2 : decode b_M_relation 2 = .ok (.getfield 92, 3) := by decide +kernel
theorem d_M_relation_5 : decode b_M_relation 5 = .ok (.iconst 5, 1) := by decide +kernel
theorem d_M_relation_6 : decode b_M_relation 6 = .ok (.if_icmp .eq 7, 3) := by decide +kernel
theorem d_M_relation_9 : decode b_M_relation 9 = .ok (.iconst 1, 1) := by decide +kernel
theorem d_M_relation_10 : decode b_M_relation 10 = .ok (.goto 4, 3) := by decide +kernel
theorem d_M_relation_13 : decode b_M_relation 13 = .ok (.iconst 0, 1) := by decide +kernel
theorem d_M_relation_14 : decode b_M_relation 14 = .ok (.aload_n 0, 1) := by decide +kernel
theorem d_M_relation_15 : decode b_M_relation 15 = .ok (.getfield 95, 3) := by decide +kernel
theorem d_M_relation_18 : decode b_M_relation 18 = .ok (.ifCond .ne 7, 3) := by decide +kernel
theorem d_M_relation_21 : decode b_M_relation 21 = .ok (.iconst 1, 1) := by decide +kernel
theorem d_M_relation_22 : decode b_M_relation 22 = .ok (.goto 4, 3) := by decide +kernel
theorem d_M_relation_25 : decode b_M_relation 25 = .ok (.iconst 0, 1) := by decide +kernel
theorem d_M_relation_26 : decode b_M_relation 26 = .ok (.invokevirtual 98, 3) := by decide +kernel
theorem d_M_relation_29 : decode b_M_relation 29 = .ok (.ifCond .eq 5, 3) := by decide +kernel
theorem d_M_relation_32 : decode b_M_relation 32 = .ok (.iconst 0, 1) := by decide +kernel
theorem d_M_relation_33 : decode b_M_relation 33 = .ok (.ireturn, 1) := by decide +kernel
theorem d_M_relation_34 : decode b_M_relation 34 = .ok (.aload_n 0, 1) := by decide +kernel
theorem d_M_relation_35 : decode b_M_relation 35 = .ok (.getfield 126, 3) := by decide +kernel
theorem d_M_relation_38 : decode b_M_relation 38 = .ok (.ireturn, 1) := by decide +kernel
theorem d_M_stage_0 : decode b_M_stage 0 = .ok (.aload_n 0, 1) := by decide +kernel
theorem d_M_stage_1 : decode b_M_stage 1 = .ok (.iconst 0, 1) := by decide +kernel
theorem d_M_stage_2 : decode b_M_stage 2 = .ok (.putfield 85, 3) := by decide +kernel
theorem d_M_stage_5 : decode b_M_stage 5 = .ok (.aload_n 0, 1) := by decide +kernel
theorem d_M_stage_6 : decode b_M_stage 6 = .ok (.getfield 92, 3) := by decide +kernel
theorem d_M_stage_9 : decode b_M_stage 9 = .ok (.ireturn, 1) := by decide +kernel
theorem d_M_commitment_0 : decode b_M_commitment 0 = .ok (.aload_n 0, 1) := by decide +kernel
theorem d_M_commitment_1 : decode b_M_commitment 1 = .ok (.iconst 0, 1) := by decide +kernel
theorem d_M_commitment_2 : decode b_M_commitment 2 = .ok (.putfield 85, 3) := by decide +kernel
theorem d_M_commitment_5 : decode b_M_commitment 5 = .ok (.aload_n 0, 1) := by decide +kernel
theorem d_M_commitment_6 : decode b_M_commitment 6 = .ok (.getfield 92, 3) := by decide +kernel
theorem d_M_commitment_9 : decode b_M_commitment 9 = .ok (.iconst 2, 1) := by decide +kernel
theorem d_M_commitment_10 : decode b_M_commitment 10 = .ok (.if_icmp .lt 24, 3) := by decide +kernel
theorem d_M_commitment_13 : decode b_M_commitment 13 = .ok (.iload_n 1, 1) := by decide +kernel
theorem d_M_commitment_14 : decode b_M_commitment 14 = .ok (.ifCond .lt 20, 3) := by decide +kernel
theorem d_M_commitment_17 : decode b_M_commitment 17 = .ok (.iload_n 1, 1) := by decide +kernel
theorem d_M_commitment_18 : decode b_M_commitment 18 = .ok (.aload_n 0, 1) := by decide +kernel
theorem d_M_commitment_19 : decode b_M_commitment 19 = .ok (.getfield 75, 3) := by decide +kernel
theorem d_M_commitment_22 : decode b_M_commitment 22 = .ok (.if_icmp .ge 12, 3) := by decide +kernel
theorem d_M_commitment_25 : decode b_M_commitment 25 = .ok (.aload_n 0, 1) := by decide +kernel
theorem d_M_commitment_26 : decode b_M_commitment 26 = .ok (.getfield 16, 3) := by decide +kernel
theorem d_M_commitment_29 : decode b_M_commitment 29 = .ok (.iload_n 1, 1) := by decide +kernel
theorem d_M_commitment_30 : decode b_M_commitment 30 = .ok (.iaload, 1) := by decide +kernel
theorem d_M_commitment_31 : decode b_M_commitment 31 = .ok (.goto 4, 3) := by decide +kernel
theorem d_M_commitment_34 : decode b_M_commitment 34 = .ok (.iconst 0, 1) := by decide +kernel
theorem d_M_commitment_35 : decode b_M_commitment 35 = .ok (.ireturn, 1) := by decide +kernel
theorem d_M_share_0 : decode b_M_share 0 = .ok (.aload_n 0, 1) := by decide +kernel
theorem d_M_share_1 : decode b_M_share 1 = .ok (.iconst 0, 1) := by decide +kernel
theorem d_M_share_2 : decode b_M_share 2 = .ok (.putfield 85, 3) := by decide +kernel
theorem d_M_share_5 : decode b_M_share 5 = .ok (.aload_n 0, 1) := by decide +kernel
theorem d_M_share_6 : decode b_M_share 6 = .ok (.getfield 92, 3) := by decide +kernel
theorem d_M_share_9 : decode b_M_share 9 = .ok (.iconst 2, 1) := by decide +kernel
theorem d_M_share_10 : decode b_M_share 10 = .ok (.if_icmp .lt 11, 3) := by decide +kernel
theorem d_M_share_13 : decode b_M_share 13 = .ok (.aload_n 0, 1) := by decide +kernel
theorem d_M_share_14 : decode b_M_share 14 = .ok (.iload_n 1, 1) := by decide +kernel
theorem d_M_share_15 : decode b_M_share 15 = .ok (.invokevirtual 117, 3) := by decide +kernel
theorem d_M_share_18 : decode b_M_share 18 = .ok (.ifCond .ne 5, 3) := by decide +kernel
theorem d_M_share_21 : decode b_M_share 21 = .ok (.iconst (-1), 1) := by decide +kernel
theorem d_M_share_22 : decode b_M_share 22 = .ok (.ireturn, 1) := by decide +kernel
theorem d_M_share_23 : decode b_M_share 23 = .ok (.iload_n 2, 1) := by decide +kernel
theorem d_M_share_24 : decode b_M_share 24 = .ok (.ifCond .ne 12, 3) := by decide +kernel
theorem d_M_share_27 : decode b_M_share 27 = .ok (.aload_n 0, 1) := by decide +kernel
theorem d_M_share_28 : decode b_M_share 28 = .ok (.getfield 29, 3) := by decide +kernel
theorem d_M_share_31 : decode b_M_share 31 = .ok (.iload_n 1, 1) := by decide +kernel
theorem d_M_share_32 : decode b_M_share 32 = .ok (.iaload, 1) := by decide +kernel
theorem d_M_share_33 : decode b_M_share 33 = .ok (.goto 18, 3) := by decide +kernel
theorem d_M_share_36 : decode b_M_share 36 = .ok (.iload_n 2, 1) := by decide +kernel
theorem d_M_share_37 : decode b_M_share 37 = .ok (.iconst 1, 1) := by decide +kernel
theorem d_M_share_38 : decode b_M_share 38 = .ok (.if_icmp .ne 12, 3) := by decide +kernel
theorem d_M_share_41 : decode b_M_share 41 = .ok (.aload_n 0, 1) := by decide +kernel
theorem d_M_share_42 : decode b_M_share 42 = .ok (.getfield 32, 3) := by decide +kernel
theorem d_M_share_45 : decode b_M_share 45 = .ok (.iload_n 1, 1) := by decide +kernel
theorem d_M_share_46 : decode b_M_share 46 = .ok (.iaload, 1) := by decide +kernel
theorem d_M_share_47 : decode b_M_share 47 = .ok (.goto 4, 3) := by decide +kernel
theorem d_M_share_50 : decode b_M_share 50 = .ok (.iconst (-1), 1) := by decide +kernel
theorem d_M_share_51 : decode b_M_share 51 = .ok (.ireturn, 1) := by decide +kernel
theorem d_M_fits_0 : decode b_M_fits 0 = .ok (.aload_n 0, 1) := by decide +kernel
theorem d_M_fits_1 : decode b_M_fits 1 = .ok (.iconst 0, 1) := by decide +kernel
theorem d_M_fits_2 : decode b_M_fits 2 = .ok (.putfield 85, 3) := by decide +kernel
theorem d_M_fits_5 : decode b_M_fits 5 = .ok (.aload_n 0, 1) := by decide +kernel
theorem d_M_fits_6 : decode b_M_fits 6 = .ok (.getfield 92, 3) := by decide +kernel
theorem d_M_fits_9 : decode b_M_fits 9 = .ok (.iconst 2, 1) := by decide +kernel
theorem d_M_fits_10 : decode b_M_fits 10 = .ok (.if_icmp .lt 35, 3) := by decide +kernel
theorem d_M_fits_13 : decode b_M_fits 13 = .ok (.aload_n 0, 1) := by decide +kernel
theorem d_M_fits_14 : decode b_M_fits 14 = .ok (.iload_n 1, 1) := by decide +kernel
theorem d_M_fits_15 : decode b_M_fits 15 = .ok (.invokevirtual 117, 3) := by decide +kernel
theorem d_M_fits_18 : decode b_M_fits 18 = .ok (.ifCond .eq 27, 3) := by decide +kernel
theorem d_M_fits_21 : decode b_M_fits 21 = .ok (.aload_n 0, 1) := by decide +kernel
theorem d_M_fits_22 : decode b_M_fits 22 = .ok (.iload_n 1, 1) := by decide +kernel
theorem d_M_fits_23 : decode b_M_fits 23 = .ok (.aload_n 0, 1) := by decide +kernel
theorem d_M_fits_24 : decode b_M_fits 24 = .ok (.getfield 29, 3) := by decide +kernel
theorem d_M_fits_27 : decode b_M_fits 27 = .ok (.iload_n 1, 1) := by decide +kernel
theorem d_M_fits_28 : decode b_M_fits 28 = .ok (.iaload, 1) := by decide +kernel
theorem d_M_fits_29 : decode b_M_fits 29 = .ok (.aload_n 0, 1) := by decide +kernel
theorem d_M_fits_30 : decode b_M_fits 30 = .ok (.getfield 32, 3) := by decide +kernel
theorem d_M_fits_33 : decode b_M_fits 33 = .ok (.iload_n 1, 1) := by decide +kernel
theorem d_M_fits_34 : decode b_M_fits 34 = .ok (.iaload, 1) := by decide +kernel
theorem d_M_fits_35 : decode b_M_fits 35 = .ok (.invokevirtual 110, 3) := by decide +kernel
theorem d_M_fits_38 : decode b_M_fits 38 = .ok (.ifCond .eq 7, 3) := by decide +kernel
theorem d_M_fits_41 : decode b_M_fits 41 = .ok (.iconst 1, 1) := by decide +kernel
theorem d_M_fits_42 : decode b_M_fits 42 = .ok (.goto 4, 3) := by decide +kernel
theorem d_M_fits_45 : decode b_M_fits 45 = .ok (.iconst 0, 1) := by decide +kernel
theorem d_M_fits_46 : decode b_M_fits 46 = .ok (.ireturn, 1) := by decide +kernel
theorem d_M_complaints_0 : decode b_M_complaints 0 = .ok (.aload_n 0, 1) := by decide +kernel
theorem d_M_complaints_1 : decode b_M_complaints 1 = .ok (.iconst 0, 1) := by decide +kernel
theorem d_M_complaints_2 : decode b_M_complaints 2 = .ok (.putfield 85, 3) := by decide +kernel
theorem d_M_complaints_5 : decode b_M_complaints 5 = .ok (.iconst 0, 1) := by decide +kernel
theorem d_M_complaints_6 : decode b_M_complaints 6 = .ok (.istore_n 1, 1) := by decide +kernel
theorem d_M_complaints_7 : decode b_M_complaints 7 = .ok (.iconst 1, 1) := by decide +kernel
theorem d_M_complaints_8 : decode b_M_complaints 8 = .ok (.istore_n 2, 1) := by decide +kernel
theorem d_M_complaints_9 : decode b_M_complaints 9 = .ok (.iload_n 2, 1) := by decide +kernel
theorem d_M_complaints_10 : decode b_M_complaints 10 = .ok (.aload_n 0, 1) := by decide +kernel
theorem d_M_complaints_11 : decode b_M_complaints 11 = .ok (.getfield 82, 3) := by decide +kernel
theorem d_M_complaints_14 : decode b_M_complaints 14 = .ok (.if_icmp .gt 33, 3) := by decide +kernel
theorem d_M_complaints_17 : decode b_M_complaints 17 = .ok (.aload_n 0, 1) := by decide +kernel
theorem d_M_complaints_18 : decode b_M_complaints 18 = .ok (.getfield 92, 3) := by decide +kernel
theorem d_M_complaints_21 : decode b_M_complaints 21 = .ok (.ifCond .le 26, 3) := by decide +kernel
theorem d_M_complaints_24 : decode b_M_complaints 24 = .ok (.aload_n 0, 1) := by decide +kernel
theorem d_M_complaints_25 : decode b_M_complaints 25 = .ok (.getfield 23, 3) := by decide +kernel
theorem d_M_complaints_28 : decode b_M_complaints 28 = .ok (.iload_n 2, 1) := by decide +kernel
theorem d_M_complaints_29 : decode b_M_complaints 29 = .ok (.baload, 1) := by decide +kernel
theorem d_M_complaints_30 : decode b_M_complaints 30 = .ok (.ifCond .eq 9, 3) := by decide +kernel
theorem d_M_complaints_33 : decode b_M_complaints 33 = .ok (.iload_n 1, 1) := by decide +kernel
theorem d_M_complaints_34 : decode b_M_complaints 34 = .ok (.iconst 1, 1) := by decide +kernel
theorem d_M_complaints_35 : decode b_M_complaints 35 = .ok (.iadd, 1) := by decide +kernel
theorem d_M_complaints_36 : decode b_M_complaints 36 = .ok (.goto 4, 3) := by decide +kernel
theorem d_M_complaints_39 : decode b_M_complaints 39 = .ok (.iload_n 1, 1) := by decide +kernel
theorem d_M_complaints_40 : decode b_M_complaints 40 = .ok (.istore_n 1, 1) := by decide +kernel
theorem d_M_complaints_41 : decode b_M_complaints 41 = .ok (.iinc 2 1, 3) := by decide +kernel
theorem d_M_complaints_44 : decode b_M_complaints 44 = .ok (.goto (-35), 3) := by decide +kernel
theorem d_M_complaints_47 : decode b_M_complaints 47 = .ok (.iload_n 1, 1) := by decide +kernel
theorem d_M_complaints_48 : decode b_M_complaints 48 = .ok (.ireturn, 1) := by decide +kernel
theorem d_M_opened_0 : decode b_M_opened 0 = .ok (.aload_n 0, 1) := by decide +kernel
theorem d_M_opened_1 : decode b_M_opened 1 = .ok (.iconst 0, 1) := by decide +kernel
theorem d_M_opened_2 : decode b_M_opened 2 = .ok (.putfield 85, 3) := by decide +kernel
theorem d_M_opened_5 : decode b_M_opened 5 = .ok (.iconst 0, 1) := by decide +kernel
theorem d_M_opened_6 : decode b_M_opened 6 = .ok (.istore_n 1, 1) := by decide +kernel
theorem d_M_opened_7 : decode b_M_opened 7 = .ok (.iconst 1, 1) := by decide +kernel
theorem d_M_opened_8 : decode b_M_opened 8 = .ok (.istore_n 2, 1) := by decide +kernel
theorem d_M_opened_9 : decode b_M_opened 9 = .ok (.iload_n 2, 1) := by decide +kernel
theorem d_M_opened_10 : decode b_M_opened 10 = .ok (.aload_n 0, 1) := by decide +kernel
theorem d_M_opened_11 : decode b_M_opened 11 = .ok (.getfield 82, 3) := by decide +kernel
theorem d_M_opened_14 : decode b_M_opened 14 = .ok (.if_icmp .gt 33, 3) := by decide +kernel
theorem d_M_opened_17 : decode b_M_opened 17 = .ok (.aload_n 0, 1) := by decide +kernel
theorem d_M_opened_18 : decode b_M_opened 18 = .ok (.getfield 92, 3) := by decide +kernel
theorem d_M_opened_21 : decode b_M_opened 21 = .ok (.ifCond .le 26, 3) := by decide +kernel
theorem d_M_opened_24 : decode b_M_opened 24 = .ok (.aload_n 0, 1) := by decide +kernel
theorem d_M_opened_25 : decode b_M_opened 25 = .ok (.getfield 35, 3) := by decide +kernel
theorem d_M_opened_28 : decode b_M_opened 28 = .ok (.iload_n 2, 1) := by decide +kernel
theorem d_M_opened_29 : decode b_M_opened 29 = .ok (.baload, 1) := by decide +kernel
theorem d_M_opened_30 : decode b_M_opened 30 = .ok (.ifCond .eq 9, 3) := by decide +kernel
theorem d_M_opened_33 : decode b_M_opened 33 = .ok (.iload_n 1, 1) := by decide +kernel
theorem d_M_opened_34 : decode b_M_opened 34 = .ok (.iconst 1, 1) := by decide +kernel
theorem d_M_opened_35 : decode b_M_opened 35 = .ok (.iadd, 1) := by decide +kernel
theorem d_M_opened_36 : decode b_M_opened 36 = .ok (.goto 4, 3) := by decide +kernel
theorem d_M_opened_39 : decode b_M_opened 39 = .ok (.iload_n 1, 1) := by decide +kernel
theorem d_M_opened_40 : decode b_M_opened 40 = .ok (.istore_n 1, 1) := by decide +kernel
theorem d_M_opened_41 : decode b_M_opened 41 = .ok (.iinc 2 1, 3) := by decide +kernel
theorem d_M_opened_44 : decode b_M_opened 44 = .ok (.goto (-35), 3) := by decide +kernel
theorem d_M_opened_47 : decode b_M_opened 47 = .ok (.iload_n 1, 1) := by decide +kernel
theorem d_M_opened_48 : decode b_M_opened 48 = .ok (.ireturn, 1) := by decide +kernel
