theorem d_M_init_0 : decode b_M_init 0 = .ok (.aload_n 0, 1) := by decide +kernel
theorem d_M_init_1 : decode b_M_init 1 = .ok (.invokespecial 1, 3) := by decide +kernel
theorem d_M_init_4 : decode b_M_init 4 = .ok (.aload_n 0, 1) := by decide +kernel
theorem d_M_init_5 : decode b_M_init 5 = .ok (.bipush 20, 2) := by decide +kernel
theorem d_M_init_7 : decode b_M_init 7 = .ok (.newarray .int, 2) := by decide +kernel
theorem d_M_init_9 : decode b_M_init 9 = .ok (.putfield 7, 3) := by decide +kernel
theorem d_M_init_12 : decode b_M_init 12 = .ok (.aload_n 0, 1) := by decide +kernel
theorem d_M_init_13 : decode b_M_init 13 = .ok (.bipush 60, 2) := by decide +kernel
theorem d_M_init_15 : decode b_M_init 15 = .ok (.newarray .int, 2) := by decide +kernel
theorem d_M_init_17 : decode b_M_init 17 = .ok (.putfield 13, 3) := by decide +kernel
theorem d_M_init_20 : decode b_M_init 20 = .ok (.aload_n 0, 1) := by decide +kernel
theorem d_M_init_21 : decode b_M_init 21 = .ok (.bipush 60, 2) := by decide +kernel
theorem d_M_init_23 : decode b_M_init 23 = .ok (.newarray .int, 2) := by decide +kernel
theorem d_M_init_25 : decode b_M_init 25 = .ok (.putfield 16, 3) := by decide +kernel
theorem d_M_init_28 : decode b_M_init 28 = .ok (.aload_n 0, 1) := by decide +kernel
theorem d_M_init_29 : decode b_M_init 29 = .ok (.bipush 60, 2) := by decide +kernel
theorem d_M_init_31 : decode b_M_init 31 = .ok (.newarray .int, 2) := by decide +kernel
theorem d_M_init_33 : decode b_M_init 33 = .ok (.putfield 19, 3) := by decide +kernel
theorem d_M_init_36 : decode b_M_init 36 = .ok (.aload_n 0, 1) := by decide +kernel
theorem d_M_init_37 : decode b_M_init 37 = .ok (.bipush 60, 2) := by decide +kernel
theorem d_M_init_39 : decode b_M_init 39 = .ok (.newarray .int, 2) := by decide +kernel
theorem d_M_init_41 : decode b_M_init 41 = .ok (.putfield 22, 3) := by decide +kernel
theorem d_M_init_44 : decode b_M_init 44 = .ok (.aload_n 0, 1) := by decide +kernel
theorem d_M_init_45 : decode b_M_init 45 = .ok (.bipush 60, 2) := by decide +kernel
theorem d_M_init_47 : decode b_M_init 47 = .ok (.newarray .int, 2) := by decide +kernel
theorem d_M_init_49 : decode b_M_init 49 = .ok (.putfield 25, 3) := by decide +kernel
theorem d_M_init_52 : decode b_M_init 52 = .ok (.aload_n 0, 1) := by decide +kernel
theorem d_M_init_53 : decode b_M_init 53 = .ok (.bipush 60, 2) := by decide +kernel
theorem d_M_init_55 : decode b_M_init 55 = .ok (.newarray .int, 2) := by decide +kernel
theorem d_M_init_57 : decode b_M_init 57 = .ok (.putfield 28, 3) := by decide +kernel
theorem d_M_init_60 : decode b_M_init 60 = .ok (.aload_n 0, 1) := by decide +kernel
theorem d_M_init_61 : decode b_M_init 61 = .ok (.bipush 80, 2) := by decide +kernel
theorem d_M_init_63 : decode b_M_init 63 = .ok (.newarray .int, 2) := by decide +kernel
theorem d_M_init_65 : decode b_M_init 65 = .ok (.putfield 31, 3) := by decide +kernel
theorem d_M_init_68 : decode b_M_init 68 = .ok (.aload_n 0, 1) := by decide +kernel
theorem d_M_init_69 : decode b_M_init 69 = .ok (.bipush 80, 2) := by decide +kernel
theorem d_M_init_71 : decode b_M_init 71 = .ok (.newarray .int, 2) := by decide +kernel
theorem d_M_init_73 : decode b_M_init 73 = .ok (.putfield 34, 3) := by decide +kernel
theorem d_M_init_76 : decode b_M_init 76 = .ok (.aload_n 0, 1) := by decide +kernel
theorem d_M_init_77 : decode b_M_init 77 = .ok (.bipush 80, 2) := by decide +kernel
theorem d_M_init_79 : decode b_M_init 79 = .ok (.newarray .int, 2) := by decide +kernel
theorem d_M_init_81 : decode b_M_init 81 = .ok (.putfield 37, 3) := by decide +kernel
theorem d_M_init_84 : decode b_M_init 84 = .ok (.aload_n 0, 1) := by decide +kernel
theorem d_M_init_85 : decode b_M_init 85 = .ok (.bipush 80, 2) := by decide +kernel
theorem d_M_init_87 : decode b_M_init 87 = .ok (.newarray .int, 2) := by decide +kernel
theorem d_M_init_89 : decode b_M_init 89 = .ok (.putfield 40, 3) := by decide +kernel
theorem d_M_init_92 : decode b_M_init 92 = .ok (.aload_n 0, 1) := by decide +kernel
theorem d_M_init_93 : decode b_M_init 93 = .ok (.sipush 300, 3) := by decide +kernel
theorem d_M_init_96 : decode b_M_init 96 = .ok (.newarray .int, 2) := by decide +kernel
theorem d_M_init_98 : decode b_M_init 98 = .ok (.putfield 43, 3) := by decide +kernel
theorem d_M_init_101 : decode b_M_init 101 = .ok (.aload_n 0, 1) := by decide +kernel
theorem d_M_init_102 : decode b_M_init 102 = .ok (.sipush 300, 3) := by decide +kernel
theorem d_M_init_105 : decode b_M_init 105 = .ok (.newarray .int, 2) := by decide +kernel
theorem d_M_init_107 : decode b_M_init 107 = .ok (.putfield 46, 3) := by decide +kernel
theorem d_M_init_110 : decode b_M_init 110 = .ok (.aload_n 0, 1) := by decide +kernel
theorem d_M_init_111 : decode b_M_init 111 = .ok (.sipush 300, 3) := by decide +kernel
theorem d_M_init_114 : decode b_M_init 114 = .ok (.newarray .int, 2) := by decide +kernel
theorem d_M_init_116 : decode b_M_init 116 = .ok (.putfield 49, 3) := by decide +kernel
theorem d_M_init_119 : decode b_M_init 119 = .ok (.aload_n 0, 1) := by decide +kernel
theorem d_M_init_120 : decode b_M_init 120 = .ok (.sipush 300, 3) := by decide +kernel
theorem d_M_init_123 : decode b_M_init 123 = .ok (.newarray .int, 2) := by decide +kernel
theorem d_M_init_125 : decode b_M_init 125 = .ok (.putfield 52, 3) := by decide +kernel
theorem d_M_init_128 : decode b_M_init 128 = .ok (.aload_n 0, 1) := by decide +kernel
theorem d_M_init_129 : decode b_M_init 129 = .ok (.sipush 300, 3) := by decide +kernel
theorem d_M_init_132 : decode b_M_init 132 = .ok (.newarray .int, 2) := by decide +kernel
theorem d_M_init_134 : decode b_M_init 134 = .ok (.putfield 55, 3) := by decide +kernel
theorem d_M_init_137 : decode b_M_init 137 = .ok (.aload_n 0, 1) := by decide +kernel
theorem d_M_init_138 : decode b_M_init 138 = .ok (.sipush 300, 3) := by decide +kernel
theorem d_M_init_141 : decode b_M_init 141 = .ok (.newarray .int, 2) := by decide +kernel
theorem d_M_init_143 : decode b_M_init 143 = .ok (.putfield 58, 3) := by decide +kernel
theorem d_M_init_146 : decode b_M_init 146 = .ok (.aload_n 0, 1) := by decide +kernel
theorem d_M_init_147 : decode b_M_init 147 = .ok (.iload_n 1, 1) := by decide +kernel
theorem d_M_init_148 : decode b_M_init 148 = .ok (.ifCond .ge 7, 3) := by decide +kernel
theorem d_M_init_151 : decode b_M_init 151 = .ok (.iconst 0, 1) := by decide +kernel
theorem d_M_init_152 : decode b_M_init 152 = .ok (.goto 15, 3) := by decide +kernel
theorem d_M_init_155 : decode b_M_init 155 = .ok (.iload_n 1, 1) := by decide +kernel
theorem d_M_init_156 : decode b_M_init 156 = .ok (.bipush 20, 2) := by decide +kernel
theorem d_M_init_158 : decode b_M_init 158 = .ok (.if_icmp .le 8, 3) := by decide +kernel
theorem d_M_init_161 : decode b_M_init 161 = .ok (.bipush 20, 2) := by decide +kernel
theorem d_M_init_163 : decode b_M_init 163 = .ok (.goto 4, 3) := by decide +kernel
theorem d_M_init_166 : decode b_M_init 166 = .ok (.iload_n 1, 1) := by decide +kernel
theorem d_M_init_167 : decode b_M_init 167 = .ok (.putfield 61, 3) := by decide +kernel
theorem d_M_init_170 : decode b_M_init 170 = .ok (.iconst 0, 1) := by decide +kernel
theorem d_M_init_171 : decode b_M_init 171 = .ok (.istore_n 2, 1) := by decide +kernel
theorem d_M_init_172 : decode b_M_init 172 = .ok (.iload_n 2, 1) := by decide +kernel
theorem d_M_init_173 : decode b_M_init 173 = .ok (.bipush 20, 2) := by decide +kernel
theorem d_M_init_175 : decode b_M_init 175 = .ok (.if_icmp .ge 16, 3) := by decide +kernel
theorem d_M_init_178 : decode b_M_init 178 = .ok (.aload_n 0, 1) := by decide +kernel
theorem d_M_init_179 : decode b_M_init 179 = .ok (.getfield 7, 3) := by decide +kernel
theorem d_M_init_182 : decode b_M_init 182 = .ok (.iload_n 2, 1) := by decide +kernel
theorem d_M_init_183 : decode b_M_init 183 = .ok (.iconst (-1), 1) := by decide +kernel
theorem d_M_init_184 : decode b_M_init 184 = .ok (.iastore, 1) := by decide +kernel
theorem d_M_init_185 : decode b_M_init 185 = .ok (.iinc 2 1, 3) := by decide +kernel
theorem d_M_init_188 : decode b_M_init 188 = .ok (.goto (-16), 3) := by decide +kernel
theorem d_M_init_191 : decode b_M_init 191 = .ok (.iconst 0, 1) := by decide +kernel
theorem d_M_init_192 : decode b_M_init 192 = .ok (.istore_n 2, 1) := by decide +kernel
theorem d_M_init_193 : decode b_M_init 193 = .ok (.iload_n 2, 1) := by decide +kernel
theorem d_M_init_194 : decode b_M_init 194 = .ok (.bipush 60, 2) := by decide +kernel
theorem d_M_init_196 : decode b_M_init 196 = .ok (.if_icmp .ge 31, 3) := by decide +kernel
theorem d_M_init_199 : decode b_M_init 199 = .ok (.aload_n 0, 1) := by decide +kernel
theorem d_M_init_200 : decode b_M_init 200 = .ok (.getfield 19, 3) := by decide +kernel
theorem d_M_init_203 : decode b_M_init 203 = .ok (.iload_n 2, 1) := by decide +kernel
theorem d_M_init_204 : decode b_M_init 204 = .ok (.iconst 3, 1) := by decide +kernel
theorem d_M_init_205 : decode b_M_init 205 = .ok (.iastore, 1) := by decide +kernel
theorem d_M_init_206 : decode b_M_init 206 = .ok (.aload_n 0, 1) := by decide +kernel
theorem d_M_init_207 : decode b_M_init 207 = .ok (.getfield 22, 3) := by decide +kernel
theorem d_M_init_210 : decode b_M_init 210 = .ok (.iload_n 2, 1) := by decide +kernel
theorem d_M_init_211 : decode b_M_init 211 = .ok (.bipush 20, 2) := by decide +kernel
theorem d_M_init_213 : decode b_M_init 213 = .ok (.iastore, 1) := by decide +kernel
theorem d_M_init_214 : decode b_M_init 214 = .ok (.aload_n 0, 1) := by decide +kernel
theorem d_M_init_215 : decode b_M_init 215 = .ok (.getfield 28, 3) := by decide +kernel
theorem d_M_init_218 : decode b_M_init 218 = .ok (.iload_n 2, 1) := by decide +kernel
theorem d_M_init_219 : decode b_M_init 219 = .ok (.iconst (-1), 1) := by decide +kernel
theorem d_M_init_220 : decode b_M_init 220 = .ok (.iastore, 1) := by decide +kernel
theorem d_M_init_221 : decode b_M_init 221 = .ok (.iinc 2 1, 3) := by decide +kernel
theorem d_M_init_224 : decode b_M_init 224 = .ok (.goto (-31), 3) := by decide +kernel
theorem d_M_init_227 : decode b_M_init 227 = .ok (.iconst 0, 1) := by decide +kernel
theorem d_M_init_228 : decode b_M_init 228 = .ok (.istore_n 2, 1) := by decide +kernel
theorem d_M_init_229 : decode b_M_init 229 = .ok (.iload_n 2, 1) := by decide +kernel
theorem d_M_init_230 : decode b_M_init 230 = .ok (.bipush 80, 2) := by decide +kernel
theorem d_M_init_232 : decode b_M_init 232 = .ok (.if_icmp .ge 16, 3) := by decide +kernel
theorem d_M_init_235 : decode b_M_init 235 = .ok (.aload_n 0, 1) := by decide +kernel
theorem d_M_init_236 : decode b_M_init 236 = .ok (.getfield 40, 3) := by decide +kernel
theorem d_M_init_239 : decode b_M_init 239 = .ok (.iload_n 2, 1) := by decide +kernel
theorem d_M_init_240 : decode b_M_init 240 = .ok (.iconst (-1), 1) := by decide +kernel
theorem d_M_init_241 : decode b_M_init 241 = .ok (.iastore, 1) := by decide +kernel
theorem d_M_init_242 : decode b_M_init 242 = .ok (.iinc 2 1, 3) := by decide +kernel
theorem d_M_init_245 : decode b_M_init 245 = .ok (.goto (-16), 3) := by decide +kernel
theorem d_M_init_248 : decode b_M_init 248 = .ok (.return_, 1) := by decide +kernel
theorem d_M_thrown_0 : decode b_M_thrown 0 = .ok (.aload_n 0, 1) := by decide +kernel
theorem d_M_thrown_1 : decode b_M_thrown 1 = .ok (.getfield 65, 3) := by decide +kernel
theorem d_M_thrown_4 : decode b_M_thrown 4 = .ok (.ireturn, 1) := by decide +kernel
theorem d_M_in_0 : decode b_M_in 0 = .ok (.iload_n 0, 1) := by decide +kernel
theorem d_M_in_1 : decode b_M_in 1 = .ok (.iload_n 1, 1) := by decide +kernel
theorem d_M_in_2 : decode b_M_in 2 = .ok (.if_icmp .lt 12, 3) := by decide +kernel
theorem d_M_in_5 : decode b_M_in 5 = .ok (.iload_n 0, 1) := by decide +kernel
theorem d_M_in_6 : decode b_M_in 6 = .ok (.iload_n 2, 1) := by decide +kernel
theorem d_M_in_7 : decode b_M_in 7 = .ok (.if_icmp .gt 7, 3) := by decide +kernel
theorem d_M_in_10 : decode b_M_in 10 = .ok (.iconst 1, 1) := by decide +kernel
theorem d_M_in_11 : decode b_M_in 11 = .ok (.goto 4, 3) := by decide +kernel
theorem d_M_in_14 : decode b_M_in 14 = .ok (.iconst 0, 1) := by decide +kernel
theorem d_M_in_15 : decode b_M_in 15 = .ok (.ireturn, 1) := by decide +kernel
theorem d_M_isPerson_0 : decode b_M_isPerson 0 = .ok (.iload_n 0, 1) := by decide +kernel
theorem d_M_isPerson_1 : decode b_M_isPerson 1 = .ok (.iconst 0, 1) := by decide +kernel
theorem d_M_isPerson_2 : decode b_M_isPerson 2 = .ok (.bipush 59, 2) := by decide +kernel
theorem d_M_isPerson_4 : decode b_M_isPerson 4 = .ok (.invokestatic 68, 3) := by decide +kernel
theorem d_M_isPerson_7 : decode b_M_isPerson 7 = .ok (.ireturn, 1) := by decide +kernel
theorem d_M_isUnit_0 : decode b_M_isUnit 0 = .ok (.iload_n 0, 1) := by decide +kernel
theorem d_M_isUnit_1 : decode b_M_isUnit 1 = .ok (.iconst 0, 1) := by decide +kernel
theorem d_M_isUnit_2 : decode b_M_isUnit 2 = .ok (.bipush 79, 2) := by decide +kernel
theorem d_M_isUnit_4 : decode b_M_isUnit 4 = .ok (.invokestatic 68, 3) := by decide +kernel
theorem d_M_isUnit_7 : decode b_M_isUnit 7 = .ok (.ireturn, 1) := by decide +kernel
theorem d_M_isNow_0 : decode b_M_isNow 0 = .ok (.iload_n 1, 1) := by decide +kernel
theorem d_M_isNow_1 : decode b_M_isNow 1 = .ok (.aload_n 0, 1) := by decide +kernel
theorem d_M_isNow_2 : decode b_M_isNow 2 = .ok (.getfield 72, 3) := by decide +kernel
theorem d_M_isNow_5 : decode b_M_isNow 5 = .ok (.ldc 75, 2) := by decide +kernel
theorem d_M_isNow_7 : decode b_M_isNow 7 = .ok (.invokestatic 68, 3) := by decide +kernel
theorem d_M_isNow_10 : decode b_M_isNow 10 = .ok (.ireturn, 1) := by decide +kernel
theorem d_M_seatOf_0 : decode b_M_seatOf 0 = .ok (.iconst 0, 1) := by decide +kernel
theorem d_M_seatOf_1 : decode b_M_seatOf 1 = .ok (.istore_n 2, 1) := by decide +kernel
theorem d_M_seatOf_2 : decode b_M_seatOf 2 = .ok (.iload_n 2, 1) := by decide +kernel
theorem d_M_seatOf_3 : decode b_M_seatOf 3 = .ok (.aload_n 0, 1) := by decide +kernel
theorem d_M_seatOf_4 : decode b_M_seatOf 4 = .ok (.getfield 61, 3) := by decide +kernel
theorem d_M_seatOf_7 : decode b_M_seatOf 7 = .ok (.if_icmp .ge 21, 3) := by decide +kernel
theorem d_M_seatOf_10 : decode b_M_seatOf 10 = .ok (.aload_n 0, 1) := by decide +kernel
theorem d_M_seatOf_11 : decode b_M_seatOf 11 = .ok (.getfield 7, 3) := by decide +kernel
theorem d_M_seatOf_14 : decode b_M_seatOf 14 = .ok (.iload_n 2, 1) := by decide +kernel
theorem d_M_seatOf_15 : decode b_M_seatOf 15 = .ok (.iaload, 1) := by decide +kernel
theorem d_M_seatOf_16 : decode b_M_seatOf 16 = .ok (.iload_n 1, 1) := by decide +kernel
theorem d_M_seatOf_17 : decode b_M_seatOf 17 = .ok (.if_icmp .ne 5, 3) := by decide +kernel
theorem d_M_seatOf_20 : decode b_M_seatOf 20 = .ok (.iload_n 2, 1) := by decide +kernel
theorem d_M_seatOf_21 : decode b_M_seatOf 21 = .ok (.ireturn, 1) := by decide +kernel
theorem d_M_seatOf_22 : decode b_M_seatOf 22 = .ok (.iinc 2 1, 3) := by decide +kernel
theorem d_M_seatOf_25 : decode b_M_seatOf 25 = .ok (.goto (-23), 3) := by decide +kernel
theorem d_M_seatOf_28 : decode b_M_seatOf 28 = .ok (.iconst (-1), 1) := by decide +kernel
theorem d_M_seatOf_29 : decode b_M_seatOf 29 = .ok (.ireturn, 1) := by decide +kernel
theorem d_M_waitOf_0 : decode b_M_waitOf 0 = .ok (.iconst 0, 1) := by decide +kernel
theorem d_M_waitOf_1 : decode b_M_waitOf 1 = .ok (.istore_n 2, 1) := by decide +kernel
theorem d_M_waitOf_2 : decode b_M_waitOf 2 = .ok (.iload_n 2, 1) := by decide +kernel
theorem d_M_waitOf_3 : decode b_M_waitOf 3 = .ok (.aload_n 0, 1) := by decide +kernel
theorem d_M_waitOf_4 : decode b_M_waitOf 4 = .ok (.getfield 76, 3) := by decide +kernel
theorem d_M_waitOf_7 : decode b_M_waitOf 7 = .ok (.if_icmp .ge 21, 3) := by decide +kernel
theorem d_M_waitOf_10 : decode b_M_waitOf 10 = .ok (.aload_n 0, 1) := by decide +kernel
theorem d_M_waitOf_11 : decode b_M_waitOf 11 = .ok (.getfield 13, 3) := by decide +kernel
theorem d_M_waitOf_14 : decode b_M_waitOf 14 = .ok (.iload_n 2, 1) := by decide +kernel
theorem d_M_waitOf_15 : decode b_M_waitOf 15 = .ok (.iaload, 1) := by decide +kernel
theorem d_M_waitOf_16 : decode b_M_waitOf 16 = .ok (.iload_n 1, 1) := by decide +kernel
theorem d_M_waitOf_17 : decode b_M_waitOf 17 = .ok (.if_icmp .ne 5, 3) := by decide +kernel
theorem d_M_waitOf_20 : decode b_M_waitOf 20 = .ok (.iload_n 2, 1) := by decide +kernel
theorem d_M_waitOf_21 : decode b_M_waitOf 21 = .ok (.ireturn, 1) := by decide +kernel
theorem d_M_waitOf_22 : decode b_M_waitOf 22 = .ok (.iinc 2 1, 3) := by decide +kernel
theorem d_M_waitOf_25 : decode b_M_waitOf 25 = .ok (.goto (-23), 3) := by decide +kernel
theorem d_M_waitOf_28 : decode b_M_waitOf 28 = .ok (.iconst (-1), 1) := by decide +kernel
theorem d_M_waitOf_29 : decode b_M_waitOf 29 = .ok (.ireturn, 1) := by decide +kernel
theorem d_M_has_0 : decode b_M_has 0 = .ok (.iconst 0, 1) := by decide +kernel
theorem d_M_has_1 : decode b_M_has 1 = .ok (.istore_n 2, 1) := by decide +kernel
theorem d_M_has_2 : decode b_M_has 2 = .ok (.iconst 0, 1) := by decide +kernel
theorem d_M_has_3 : decode b_M_has 3 = .ok (.istore_n 3, 1) := by decide +kernel
theorem d_M_has_4 : decode b_M_has 4 = .ok (.iload_n 3, 1) := by decide +kernel
theorem d_M_has_5 : decode b_M_has 5 = .ok (.bipush 80, 2) := by decide +kernel
theorem d_M_has_7 : decode b_M_has 7 = .ok (.if_icmp .ge 42, 3) := by decide +kernel
theorem d_M_has_10 : decode b_M_has 10 = .ok (.iload_n 2, 1) := by decide +kernel
theorem d_M_has_11 : decode b_M_has 11 = .ok (.aload_n 0, 1) := by decide +kernel
theorem d_M_has_12 : decode b_M_has 12 = .ok (.getfield 31, 3) := by decide +kernel
theorem d_M_has_15 : decode b_M_has 15 = .ok (.iload_n 3, 1) := by decide +kernel
theorem d_M_has_16 : decode b_M_has 16 = .ok (.iaload, 1) := by decide +kernel
theorem d_M_has_17 : decode b_M_has 17 = .ok (.iconst 2, 1) := by decide +kernel
theorem d_M_has_18 : decode b_M_has 18 = .ok (.if_icmp .ne 22, 3) := by decide +kernel
theorem d_M_has_21 : decode b_M_has 21 = .ok (.aload_n 0, 1) := by decide +kernel
theorem d_M_has_22 : decode b_M_has 22 = .ok (.getfield 43, 3) := by decide +kernel
theorem d_M_has_25 : decode b_M_has 25 = .ok (.aload_n 0, 1) := by decide +kernel
theorem d_M_has_26 : decode b_M_has 26 = .ok (.getfield 40, 3) := by decide +kernel
theorem d_M_has_29 : decode b_M_has 29 = .ok (.iload_n 3, 1) := by decide +kernel
theorem d_M_has_30 : decode b_M_has 30 = .ok (.iaload, 1) := by decide +kernel
theorem d_M_has_31 : decode b_M_has 31 = .ok (.iaload, 1) := by decide +kernel
theorem d_M_has_32 : decode b_M_has 32 = .ok (.iload_n 1, 1) := by decide +kernel
theorem d_M_has_33 : decode b_M_has 33 = .ok (.if_icmp .ne 7, 3) := by decide +kernel
theorem d_M_has_36 : decode b_M_has 36 = .ok (.iconst 1, 1) := by decide +kernel
theorem d_M_has_37 : decode b_M_has 37 = .ok (.goto 4, 3) := by decide +kernel
theorem d_M_has_40 : decode b_M_has 40 = .ok (.iconst 0, 1) := by decide +kernel
theorem d_M_has_41 : decode b_M_has 41 = .ok (.iadd, 1) := by decide +kernel
theorem d_M_has_42 : decode b_M_has 42 = .ok (.istore_n 2, 1) := by decide +kernel
theorem d_M_has_43 : decode b_M_has 43 = .ok (.iinc 3 1, 3) := by decide +kernel
theorem d_M_has_46 : decode b_M_has 46 = .ok (.goto (-42), 3) := by decide +kernel
theorem d_M_has_49 : decode b_M_has 49 = .ok (.iload_n 2, 1) := by decide +kernel
theorem d_M_has_50 : decode b_M_has 50 = .ok (.ireturn, 1) := by decide +kernel
theorem d_M_come_0 : decode b_M_come 0 = .ok (.aload_n 0, 1) := by decide +kernel
theorem d_M_come_1 : decode b_M_come 1 = .ok (.iconst 0, 1) := by decide +kernel
theorem d_M_come_2 : decode b_M_come 2 = .ok (.putfield 65, 3) := by decide +kernel
theorem d_M_come_5 : decode b_M_come 5 = .ok (.iload_n 1, 1) := by decide +kernel
theorem d_M_come_6 : decode b_M_come 6 = .ok (.invokestatic 79, 3) := by decide +kernel
theorem d_M_come_9 : decode b_M_come 9 = .ok (.ifCond .ne 5, 3) := by decide +kernel
theorem d_M_come_12 : decode b_M_come 12 = .ok (.iconst (-1), 1) := by decide +kernel
theorem d_M_come_13 : decode b_M_come 13 = .ok (.ireturn, 1) := by decide +kernel
theorem d_M_come_14 : decode b_M_come 14 = .ok (.aload_n 0, 1) := by decide +kernel
theorem d_M_come_15 : decode b_M_come 15 = .ok (.iload_n 1, 1) := by decide +kernel
theorem d_M_come_16 : decode b_M_come 16 = .ok (.invokevirtual 83, 3) := by decide +kernel
theorem d_M_come_19 : decode b_M_come 19 = .ok (.ifCond .ge 11, 3) := by decide +kernel
theorem d_M_come_22 : decode b_M_come 22 = .ok (.aload_n 0, 1) := by decide +kernel
theorem d_M_come_23 : decode b_M_come 23 = .ok (.iload_n 1, 1) := by decide +kernel
theorem d_M_come_24 : decode b_M_come 24 = .ok (.invokevirtual 87, 3) := by decide +kernel
theorem d_M_come_27 : decode b_M_come 27 = .ok (.ifCond .lt 6, 3) := by decide +kernel
theorem d_M_come_30 : decode b_M_come 30 = .ok (.bipush (-3), 2) := by decide +kernel
theorem d_M_come_32 : decode b_M_come 32 = .ok (.ireturn, 1) := by decide +kernel
theorem d_M_come_33 : decode b_M_come 33 = .ok (.aload_n 0, 1) := by decide +kernel
theorem d_M_come_34 : decode b_M_come 34 = .ok (.iconst (-1), 1) := by decide +kernel
theorem d_M_come_35 : decode b_M_come 35 = .ok (.invokevirtual 83, 3) := by decide +kernel
theorem d_M_come_38 : decode b_M_come 38 = .ok (.istore_n 2, 1) := by decide +kernel
theorem d_M_come_39 : decode b_M_come 39 = .ok (.iload_n 2, 1) := by decide +kernel
theorem d_M_come_40 : decode b_M_come 40 = .ok (.ifCond .lt 12, 3) := by decide +kernel
theorem d_M_come_43 : decode b_M_come 43 = .ok (.aload_n 0, 1) := by decide +kernel
theorem d_M_come_44 : decode b_M_come 44 = .ok (.getfield 7, 3) := by decide +kernel
theorem d_M_come_47 : decode b_M_come 47 = .ok (.iload_n 2, 1) := by decide +kernel
theorem d_M_come_48 : decode b_M_come 48 = .ok (.iload_n 1, 1) := by decide +kernel
theorem d_M_come_49 : decode b_M_come 49 = .ok (.iastore, 1) := by decide +kernel
theorem d_M_come_50 : decode b_M_come 50 = .ok (.iload_n 2, 1) := by decide +kernel
theorem d_M_come_51 : decode b_M_come 51 = .ok (.ireturn, 1) := by decide +kernel
theorem d_M_come_52 : decode b_M_come 52 = .ok (.aload_n 0, 1) := by decide +kernel
theorem d_M_come_53 : decode b_M_come 53 = .ok (.getfield 13, 3) := by decide +kernel
theorem d_M_come_56 : decode b_M_come 56 = .ok (.aload_n 0, 1) := by decide +kernel
theorem d_M_come_57 : decode b_M_come 57 = .ok (.getfield 76, 3) := by decide +kernel
theorem d_M_come_60 : decode b_M_come 60 = .ok (.iload_n 1, 1) := by decide +kernel
theorem d_M_come_61 : decode b_M_come 61 = .ok (.iastore, 1) := by decide +kernel
theorem d_M_come_62 : decode b_M_come 62 = .ok (.aload_n 0, 1) := by decide +kernel
theorem d_M_come_63 : decode b_M_come 63 = .ok (.dup, 1) := by decide +kernel
theorem d_M_come_64 : decode b_M_come 64 = .ok (.getfield 76, 3) := by decide +kernel
theorem d_M_come_67 : decode b_M_come 67 = .ok (.iconst 1, 1) := by decide +kernel
theorem d_M_come_68 : decode b_M_come 68 = .ok (.iadd, 1) := by decide +kernel
theorem d_M_come_69 : decode b_M_come 69 = .ok (.putfield 76, 3) := by decide +kernel
theorem d_M_come_72 : decode b_M_come 72 = .ok (.bipush (-10), 2) := by decide +kernel
theorem d_M_come_74 : decode b_M_come 74 = .ok (.aload_n 0, 1) := by decide +kernel
theorem d_M_come_75 : decode b_M_come 75 = .ok (.getfield 76, 3) := by decide +kernel
theorem d_M_come_78 : decode b_M_come 78 = .ok (.iconst 1, 1) := by decide +kernel
theorem d_M_come_79 : decode b_M_come 79 = .ok (.isub, 1) := by decide +kernel
theorem d_M_come_80 : decode b_M_come 80 = .ok (.isub, 1) := by decide +kernel
theorem d_M_come_81 : decode b_M_come 81 = .ok (.ireturn, 1) := by decide +kernel
theorem d_M_leaveRow_0 : decode b_M_leaveRow 0 = .ok (.aload_n 0, 1) := by decide +kernel
theorem d_M_leaveRow_1 : decode b_M_leaveRow 1 = .ok (.dup, 1) := by decide +kernel
theorem d_M_leaveRow_2 : decode b_M_leaveRow 2 = .ok (.getfield 76, 3) := by decide +kernel
theorem d_M_leaveRow_5 : decode b_M_leaveRow 5 = .ok (.iconst 1, 1) := by decide +kernel
theorem d_M_leaveRow_6 : decode b_M_leaveRow 6 = .ok (.isub, 1) := by decide +kernel
theorem d_M_leaveRow_7 : decode b_M_leaveRow 7 = .ok (.putfield 76, 3) := by decide +kernel
theorem d_M_leaveRow_10 : decode b_M_leaveRow 10 = .ok (.iload_n 1, 1) := by decide +kernel
theorem d_M_leaveRow_11 : decode b_M_leaveRow 11 = .ok (.istore_n 2, 1) := by decide +kernel
theorem d_M_leaveRow_12 : decode b_M_leaveRow 12 = .ok (.iload_n 2, 1) := by decide +kernel
theorem d_M_leaveRow_13 : decode b_M_leaveRow 13 = .ok (.aload_n 0, 1) := by decide +kernel
theorem d_M_leaveRow_14 : decode b_M_leaveRow 14 = .ok (.getfield 76, 3) := by decide +kernel
theorem d_M_leaveRow_17 : decode b_M_leaveRow 17 = .ok (.if_icmp .ge 23, 3) := by decide +kernel
theorem d_M_leaveRow_20 : decode b_M_leaveRow 20 = .ok (.aload_n 0, 1) := by decide +kernel
theorem d_M_leaveRow_21 : decode b_M_leaveRow 21 = .ok (.getfield 13, 3) := by decide +kernel
theorem d_M_leaveRow_24 : decode b_M_leaveRow 24 = .ok (.iload_n 2, 1) := by decide +kernel
theorem d_M_leaveRow_25 : decode b_M_leaveRow 25 = .ok (.aload_n 0, 1) := by decide +kernel
theorem d_M_leaveRow_26 : decode b_M_leaveRow 26 = .ok (.getfield 13, 3) := by decide +kernel
theorem d_M_leaveRow_29 : decode b_M_leaveRow 29 = .ok (.iload_n 2, 1) := by decide +kernel
theorem d_M_leaveRow_30 : decode b_M_leaveRow 30 = .ok (.iconst 1, 1) := by decide +kernel
theorem d_M_leaveRow_31 : decode b_M_leaveRow 31 = .ok (.iadd, 1) := by decide +kernel
theorem d_M_leaveRow_32 : decode b_M_leaveRow 32 = .ok (.iaload, 1) := by decide +kernel
theorem d_M_leaveRow_33 : decode b_M_leaveRow 33 = .ok (.iastore, 1) := by decide +kernel
theorem d_M_leaveRow_34 : decode b_M_leaveRow 34 = .ok (.iinc 2 1, 3) := by decide +kernel
theorem d_M_leaveRow_37 : decode b_M_leaveRow 37 = .ok (.goto (-25), 3) := by decide +kernel
theorem d_M_leaveRow_40 : decode b_M_leaveRow 40 = .ok (.return_, 1) := by decide +kernel
theorem d_M_leave_0 : decode b_M_leave 0 = .ok (.aload_n 0, 1) := by decide +kernel
theorem d_M_leave_1 : decode b_M_leave 1 = .ok (.iconst 0, 1) := by decide +kernel
theorem d_M_leave_2 : decode b_M_leave 2 = .ok (.putfield 65, 3) := by decide +kernel
theorem d_M_leave_5 : decode b_M_leave 5 = .ok (.iload_n 1, 1) := by decide +kernel
theorem d_M_leave_6 : decode b_M_leave 6 = .ok (.invokestatic 79, 3) := by decide +kernel
theorem d_M_leave_9 : decode b_M_leave 9 = .ok (.ifCond .ne 5, 3) := by decide +kernel
theorem d_M_leave_12 : decode b_M_leave 12 = .ok (.iconst (-1), 1) := by decide +kernel
theorem d_M_leave_13 : decode b_M_leave 13 = .ok (.ireturn, 1) := by decide +kernel
theorem d_M_leave_14 : decode b_M_leave 14 = .ok (.aload_n 0, 1) := by decide +kernel
theorem d_M_leave_15 : decode b_M_leave 15 = .ok (.iload_n 1, 1) := by decide +kernel
theorem d_M_leave_16 : decode b_M_leave 16 = .ok (.invokevirtual 83, 3) := by decide +kernel
theorem d_M_leave_19 : decode b_M_leave 19 = .ok (.istore_n 2, 1) := by decide +kernel
theorem d_M_leave_20 : decode b_M_leave 20 = .ok (.aload_n 0, 1) := by decide +kernel
theorem d_M_leave_21 : decode b_M_leave 21 = .ok (.iload_n 1, 1) := by decide +kernel
theorem d_M_leave_22 : decode b_M_leave 22 = .ok (.invokevirtual 87, 3) := by decide +kernel
theorem d_M_leave_25 : decode b_M_leave 25 = .ok (.istore_n 3, 1) := by decide +kernel
theorem d_M_leave_26 : decode b_M_leave 26 = .ok (.iload_n 2, 1) := by decide +kernel
theorem d_M_leave_27 : decode b_M_leave 27 = .ok (.ifCond .ge 7, 3) := by decide +kernel
theorem d_M_leave_30 : decode b_M_leave 30 = .ok (.iload_n 3, 1) := by decide +kernel
theorem d_M_leave_31 : decode b_M_leave 31 = .ok (.ifCond .lt 11, 3) := by decide +kernel
theorem d_M_leave_34 : decode b_M_leave 34 = .ok (.aload_n 0, 1) := by decide +kernel
theorem d_M_leave_35 : decode b_M_leave 35 = .ok (.iload_n 1, 1) := by decide +kernel
theorem d_M_leave_36 : decode b_M_leave 36 = .ok (.invokevirtual 90, 3) := by decide +kernel
theorem d_M_leave_39 : decode b_M_leave 39 = .ok (.ifCond .le 6, 3) := by decide +kernel
theorem d_M_leave_42 : decode b_M_leave 42 = .ok (.bipush (-3), 2) := by decide +kernel
theorem d_M_leave_44 : decode b_M_leave 44 = .ok (.ireturn, 1) := by decide +kernel
theorem d_M_leave_45 : decode b_M_leave 45 = .ok (.iload_n 3, 1) := by decide +kernel
theorem d_M_leave_46 : decode b_M_leave 46 = .ok (.ifCond .lt 11, 3) := by decide +kernel
theorem d_M_leave_49 : decode b_M_leave 49 = .ok (.aload_n 0, 1) := by decide +kernel
theorem d_M_leave_50 : decode b_M_leave 50 = .ok (.iload_n 3, 1) := by decide +kernel
theorem d_M_leave_51 : decode b_M_leave 51 = .ok (.invokevirtual 93, 3) := by decide +kernel
theorem d_M_leave_54 : decode b_M_leave 54 = .ok (.bipush 100, 2) := by decide +kernel
theorem d_M_leave_56 : decode b_M_leave 56 = .ok (.ireturn, 1) := by decide +kernel
theorem d_M_leave_57 : decode b_M_leave 57 = .ok (.aload_n 0, 1) := by decide +kernel
theorem d_M_leave_58 : decode b_M_leave 58 = .ok (.getfield 7, 3) := by decide +kernel
theorem d_M_leave_61 : decode b_M_leave 61 = .ok (.iload_n 2, 1) := by decide +kernel
theorem d_M_leave_62 : decode b_M_leave 62 = .ok (.aload_n 0, 1) := by decide +kernel
theorem d_M_leave_63 : decode b_M_leave 63 = .ok (.getfield 76, 3) := by decide +kernel
theorem d_M_leave_66 : decode b_M_leave 66 = .ok (.ifCond .le 12, 3) := by decide +kernel
theorem d_M_leave_69 : decode b_M_leave 69 = .ok (.aload_n 0, 1) := by decide +kernel
theorem d_M_leave_70 : decode b_M_leave 70 = .ok (.getfield 13, 3) := by decide +kernel
theorem d_M_leave_73 : decode b_M_leave 73 = .ok (.iconst 0, 1) := by decide +kernel
theorem d_M_leave_74 : decode b_M_leave 74 = .ok (.iaload, 1) := by decide +kernel
theorem d_M_leave_75 : decode b_M_leave 75 = .ok (.goto 4, 3) := by decide +kernel
theorem d_M_leave_78 : decode b_M_leave 78 = .ok (.iconst (-1), 1) := by decide +kernel
theorem d_M_leave_79 : decode b_M_leave 79 = .ok (.iastore, 1) := by decide +kernel
theorem d_M_leave_80 : decode b_M_leave 80 = .ok (.aload_n 0, 1) := by decide +kernel
theorem d_M_leave_81 : decode b_M_leave 81 = .ok (.getfield 76, 3) := by decide +kernel
theorem d_M_leave_84 : decode b_M_leave 84 = .ok (.ifCond .le 8, 3) := by decide +kernel
theorem d_M_leave_87 : decode b_M_leave 87 = .ok (.aload_n 0, 1) := by decide +kernel
theorem d_M_leave_88 : decode b_M_leave 88 = .ok (.iconst 0, 1) := by decide +kernel
theorem d_M_leave_89 : decode b_M_leave 89 = .ok (.invokevirtual 93, 3) := by decide +kernel
theorem d_M_leave_92 : decode b_M_leave 92 = .ok (.aload_n 0, 1) := by decide +kernel
theorem d_M_leave_93 : decode b_M_leave 93 = .ok (.getfield 7, 3) := by decide +kernel
theorem d_M_leave_96 : decode b_M_leave 96 = .ok (.iload_n 2, 1) := by decide +kernel
theorem d_M_leave_97 : decode b_M_leave 97 = .ok (.iaload, 1) := by decide +kernel
theorem d_M_leave_98 : decode b_M_leave 98 = .ok (.ifCond .ge 8, 3) := by decide +kernel
theorem d_M_leave_101 : decode b_M_leave 101 = .ok (.bipush 100, 2) := by decide +kernel
theorem d_M_leave_103 : decode b_M_leave 103 = .ok (.goto 9, 3) := by decide +kernel
theorem d_M_leave_106 : decode b_M_leave 106 = .ok (.aload_n 0, 1) := by decide +kernel
theorem d_M_leave_107 : decode b_M_leave 107 = .ok (.getfield 7, 3) := by decide +kernel
theorem d_M_leave_110 : decode b_M_leave 110 = .ok (.iload_n 2, 1) := by decide +kernel
theorem d_M_leave_111 : decode b_M_leave 111 = .ok (.iaload, 1) := by decide +kernel
theorem d_M_leave_112 : decode b_M_leave 112 = .ok (.ireturn, 1) := by decide +kernel
theorem d_M_right_0 : decode b_M_right 0 = .ok (.aload_n 0, 1) := by decide +kernel
theorem d_M_right_1 : decode b_M_right 1 = .ok (.iconst 0, 1) := by decide +kernel
theorem d_M_right_2 : decode b_M_right 2 = .ok (.putfield 65, 3) := by decide +kernel
theorem d_M_right_5 : decode b_M_right 5 = .ok (.iload_n 1, 1) := by decide +kernel
theorem d_M_right_6 : decode b_M_right 6 = .ok (.invokestatic 79, 3) := by decide +kernel
theorem d_M_right_9 : decode b_M_right 9 = .ok (.ifCond .ne 5, 3) := by decide +kernel
theorem d_M_right_12 : decode b_M_right 12 = .ok (.iconst (-1), 1) := by decide +kernel
theorem d_M_right_13 : decode b_M_right 13 = .ok (.ireturn, 1) := by decide +kernel
theorem d_M_right_14 : decode b_M_right 14 = .ok (.iload_n 2, 1) := by decide +kernel
theorem d_M_right_15 : decode b_M_right 15 = .ok (.iconst 0, 1) := by decide +kernel
theorem d_M_right_16 : decode b_M_right 16 = .ok (.iconst 3, 1) := by decide +kernel
theorem d_M_right_17 : decode b_M_right 17 = .ok (.invokestatic 68, 3) := by decide +kernel
theorem d_M_right_20 : decode b_M_right 20 = .ok (.ifCond .ne 6, 3) := by decide +kernel
theorem d_M_right_23 : decode b_M_right 23 = .ok (.bipush (-2), 2) := by decide +kernel
theorem d_M_right_25 : decode b_M_right 25 = .ok (.ireturn, 1) := by decide +kernel
theorem d_M_right_26 : decode b_M_right 26 = .ok (.aload_n 0, 1) := by decide +kernel
theorem d_M_right_27 : decode b_M_right 27 = .ok (.getfield 16, 3) := by decide +kernel
theorem d_M_right_30 : decode b_M_right 30 = .ok (.iload_n 1, 1) := by decide +kernel
theorem d_M_right_31 : decode b_M_right 31 = .ok (.iload_n 2, 1) := by decide +kernel
theorem d_M_right_32 : decode b_M_right 32 = .ok (.iastore, 1) := by decide +kernel
theorem d_M_right_33 : decode b_M_right 33 = .ok (.iconst 1, 1) := by decide +kernel
theorem d_M_right_34 : decode b_M_right 34 = .ok (.ireturn, 1) := by decide +kernel
theorem d_M_limit_0 : decode b_M_limit 0 = .ok (.aload_n 0, 1) := by decide +kernel
theorem d_M_limit_1 : decode b_M_limit 1 = .ok (.iconst 0, 1) := by decide +kernel
theorem d_M_limit_2 : decode b_M_limit 2 = .ok (.putfield 65, 3) := by decide +kernel
theorem d_M_limit_5 : decode b_M_limit 5 = .ok (.iload_n 1, 1) := by decide +kernel
theorem d_M_limit_6 : decode b_M_limit 6 = .ok (.invokestatic 79, 3) := by decide +kernel
theorem d_M_limit_9 : decode b_M_limit 9 = .ok (.ifCond .ne 5, 3) := by decide +kernel
theorem d_M_limit_12 : decode b_M_limit 12 = .ok (.iconst (-1), 1) := by decide +kernel
theorem d_M_limit_13 : decode b_M_limit 13 = .ok (.ireturn, 1) := by decide +kernel
theorem d_M_limit_14 : decode b_M_limit 14 = .ok (.iload_n 2, 1) := by decide +kernel
theorem d_M_limit_15 : decode b_M_limit 15 = .ok (.iconst 0, 1) := by decide +kernel
theorem d_M_limit_16 : decode b_M_limit 16 = .ok (.bipush 9, 2) := by decide +kernel
theorem d_M_limit_18 : decode b_M_limit 18 = .ok (.invokestatic 68, 3) := by decide +kernel
theorem d_M_limit_21 : decode b_M_limit 21 = .ok (.ifCond .eq 14, 3) := by decide +kernel
theorem d_M_limit_24 : decode b_M_limit 24 = .ok (.iload_n 3, 1) := by decide +kernel
theorem d_M_limit_25 : decode b_M_limit 25 = .ok (.iconst 0, 1) := by decide +kernel
theorem d_M_limit_26 : decode b_M_limit 26 = .ok (.sipush 500, 3) := by decide +kernel
theorem d_M_limit_29 : decode b_M_limit 29 = .ok (.invokestatic 68, 3) := by decide +kernel
theorem d_M_limit_32 : decode b_M_limit 32 = .ok (.ifCond .ne 6, 3) := by decide +kernel
theorem d_M_limit_35 : decode b_M_limit 35 = .ok (.bipush (-2), 2) := by decide +kernel
theorem d_M_limit_37 : decode b_M_limit 37 = .ok (.ireturn, 1) := by decide +kernel
theorem d_M_limit_38 : decode b_M_limit 38 = .ok (.aload_n 0, 1) := by decide +kernel
theorem d_M_limit_39 : decode b_M_limit 39 = .ok (.getfield 19, 3) := by decide +kernel
theorem d_M_limit_42 : decode b_M_limit 42 = .ok (.iload_n 1, 1) := by decide +kernel
theorem d_M_limit_43 : decode b_M_limit 43 = .ok (.iload_n 2, 1) := by decide +kernel
theorem d_M_limit_44 : decode b_M_limit 44 = .ok (.iastore, 1) := by decide +kernel
theorem d_M_limit_45 : decode b_M_limit 45 = .ok (.aload_n 0, 1) := by decide +kernel
theorem d_M_limit_46 : decode b_M_limit 46 = .ok (.getfield 22, 3) := by decide +kernel
theorem d_M_limit_49 : decode b_M_limit 49 = .ok (.iload_n 1, 1) := by decide +kernel
theorem d_M_limit_50 : decode b_M_limit 50 = .ok (.iload_n 3, 1) := by decide +kernel
theorem d_M_limit_51 : decode b_M_limit 51 = .ok (.iastore, 1) := by decide +kernel
theorem d_M_limit_52 : decode b_M_limit 52 = .ok (.iconst 1, 1) := by decide +kernel
theorem d_M_limit_53 : decode b_M_limit 53 = .ok (.ireturn, 1) := by decide +kernel
theorem d_M_lives_0 : decode b_M_lives 0 = .ok (.aload_n 0, 1) := by decide +kernel
theorem d_M_lives_1 : decode b_M_lives 1 = .ok (.getfield 49, 3) := by decide +kernel
theorem d_M_lives_4 : decode b_M_lives 4 = .ok (.iload_n 1, 1) := by decide +kernel
theorem d_M_lives_5 : decode b_M_lives 5 = .ok (.iaload, 1) := by decide +kernel
theorem d_M_lives_6 : decode b_M_lives 6 = .ok (.iconst 3, 1) := by decide +kernel
theorem d_M_lives_7 : decode b_M_lives 7 = .ok (.if_icmp .ge 7, 3) := by decide +kernel
theorem d_M_lives_10 : decode b_M_lives 10 = .ok (.iconst 1, 1) := by decide +kernel
theorem d_M_lives_11 : decode b_M_lives 11 = .ok (.goto 4, 3) := by decide +kernel
theorem d_M_lives_14 : decode b_M_lives 14 = .ok (.iconst 0, 1) := by decide +kernel
theorem d_M_lives_15 : decode b_M_lives 15 = .ok (.ireturn, 1) := by decide +kernel
theorem d_M_living_0 : decode b_M_living 0 = .ok (.iconst 0, 1) := by decide +kernel
theorem d_M_living_1 : decode b_M_living 1 = .ok (.istore_n 2, 1) := by decide +kernel
theorem d_M_living_2 : decode b_M_living 2 = .ok (.iconst 0, 1) := by decide +kernel
theorem d_M_living_3 : decode b_M_living 3 = .ok (.istore_n 3, 1) := by decide +kernel
theorem d_M_living_4 : decode b_M_living 4 = .ok (.iload_n 3, 1) := by decide +kernel
theorem d_M_living_5 : decode b_M_living 5 = .ok (.aload_n 0, 1) := by decide +kernel
theorem d_M_living_6 : decode b_M_living 6 = .ok (.getfield 97, 3) := by decide +kernel
theorem d_M_living_9 : decode b_M_living 9 = .ok (.if_icmp .ge 35, 3) := by decide +kernel
theorem d_M_living_12 : decode b_M_living 12 = .ok (.iload_n 2, 1) := by decide +kernel
theorem d_M_living_13 : decode b_M_living 13 = .ok (.aload_n 0, 1) := by decide +kernel
theorem d_M_living_14 : decode b_M_living 14 = .ok (.getfield 43, 3) := by decide +kernel
theorem d_M_living_17 : decode b_M_living 17 = .ok (.iload_n 3, 1) := by decide +kernel
theorem d_M_living_18 : decode b_M_living 18 = .ok (.iaload, 1) := by decide +kernel
theorem d_M_living_19 : decode b_M_living 19 = .ok (.iload_n 1, 1) := by decide +kernel
theorem d_M_living_20 : decode b_M_living 20 = .ok (.if_icmp .ne 15, 3) := by decide +kernel
theorem d_M_living_23 : decode b_M_living 23 = .ok (.aload_n 0, 1) := by decide +kernel
theorem d_M_living_24 : decode b_M_living 24 = .ok (.iload_n 3, 1) := by decide +kernel
theorem d_M_living_25 : decode b_M_living 25 = .ok (.invokevirtual 100, 3) := by decide +kernel
theorem d_M_living_28 : decode b_M_living 28 = .ok (.ifCond .eq 7, 3) := by decide +kernel
theorem d_M_living_31 : decode b_M_living 31 = .ok (.iconst 1, 1) := by decide +kernel
theorem d_M_living_32 : decode b_M_living 32 = .ok (.goto 4, 3) := by decide +kernel
theorem d_M_living_35 : decode b_M_living 35 = .ok (.iconst 0, 1) := by decide +kernel
theorem d_M_living_36 : decode b_M_living 36 = .ok (.iadd, 1) := by decide +kernel
theorem d_M_living_37 : decode b_M_living 37 = .ok (.istore_n 2, 1) := by decide +kernel
theorem d_M_living_38 : decode b_M_living 38 = .ok (.iinc 3 1, 3) := by decide +kernel
theorem d_M_living_41 : decode b_M_living 41 = .ok (.goto (-37), 3) := by decide +kernel
theorem d_M_living_44 : decode b_M_living 44 = .ok (.iload_n 2, 1) := by decide +kernel
theorem d_M_living_45 : decode b_M_living 45 = .ok (.ireturn, 1) := by decide +kernel
