theorem d_M_ahead_0 : decode b_M_ahead 0 = .ok (.iconst 0, 1) := by decide +kernel
theorem d_M_ahead_1 : decode b_M_ahead 1 = .ok (.istore_n 2, 1) := by decide +kernel
theorem d_M_ahead_2 : decode b_M_ahead 2 = .ok (.iload_n 2, 1) := by decide +kernel
theorem d_M_ahead_3 : decode b_M_ahead 3 = .ok (.aload_n 0, 1) := by decide +kernel
theorem d_M_ahead_4 : decode b_M_ahead 4 = .ok (.getfield 97, 3) := by decide +kernel
theorem d_M_ahead_7 : decode b_M_ahead 7 = .ok (.if_icmp .ge 30, 3) := by decide +kernel
theorem d_M_ahead_10 : decode b_M_ahead 10 = .ok (.aload_n 0, 1) := by decide +kernel
theorem d_M_ahead_11 : decode b_M_ahead 11 = .ok (.getfield 46, 3) := by decide +kernel
theorem d_M_ahead_14 : decode b_M_ahead 14 = .ok (.iload_n 2, 1) := by decide +kernel
theorem d_M_ahead_15 : decode b_M_ahead 15 = .ok (.iaload, 1) := by decide +kernel
theorem d_M_ahead_16 : decode b_M_ahead 16 = .ok (.iload_n 1, 1) := by decide +kernel
theorem d_M_ahead_17 : decode b_M_ahead 17 = .ok (.if_icmp .ne 14, 3) := by decide +kernel
theorem d_M_ahead_20 : decode b_M_ahead 20 = .ok (.aload_n 0, 1) := by decide +kernel
theorem d_M_ahead_21 : decode b_M_ahead 21 = .ok (.getfield 49, 3) := by decide +kernel
theorem d_M_ahead_24 : decode b_M_ahead 24 = .ok (.iload_n 2, 1) := by decide +kernel
theorem d_M_ahead_25 : decode b_M_ahead 25 = .ok (.iaload, 1) := by decide +kernel
theorem d_M_ahead_26 : decode b_M_ahead 26 = .ok (.ifCond .ne 5, 3) := by decide +kernel
theorem d_M_ahead_29 : decode b_M_ahead 29 = .ok (.iload_n 2, 1) := by decide +kernel
theorem d_M_ahead_30 : decode b_M_ahead 30 = .ok (.ireturn, 1) := by decide +kernel
theorem d_M_ahead_31 : decode b_M_ahead 31 = .ok (.iinc 2 1, 3) := by decide +kernel
theorem d_M_ahead_34 : decode b_M_ahead 34 = .ok (.goto (-32), 3) := by decide +kernel
theorem d_M_ahead_37 : decode b_M_ahead 37 = .ok (.iconst (-1), 1) := by decide +kernel
theorem d_M_ahead_38 : decode b_M_ahead 38 = .ok (.ireturn, 1) := by decide +kernel
theorem d_M_ask_0 : decode b_M_ask 0 = .ok (.aload_n 0, 1) := by decide +kernel
theorem d_M_ask_1 : decode b_M_ask 1 = .ok (.iconst 0, 1) := by decide +kernel
theorem d_M_ask_2 : decode b_M_ask 2 = .ok (.putfield 65, 3) := by decide +kernel
theorem d_M_ask_5 : decode b_M_ask 5 = .ok (.iload_n 1, 1) := by decide +kernel
theorem d_M_ask_6 : decode b_M_ask 6 = .ok (.invokestatic 79, 3) := by decide +kernel
theorem d_M_ask_9 : decode b_M_ask 9 = .ok (.ifCond .eq 10, 3) := by decide +kernel
theorem d_M_ask_12 : decode b_M_ask 12 = .ok (.iload_n 2, 1) := by decide +kernel
theorem d_M_ask_13 : decode b_M_ask 13 = .ok (.invokestatic 103, 3) := by decide +kernel
theorem d_M_ask_16 : decode b_M_ask 16 = .ok (.ifCond .ne 5, 3) := by decide +kernel
theorem d_M_ask_19 : decode b_M_ask 19 = .ok (.iconst (-1), 1) := by decide +kernel
theorem d_M_ask_20 : decode b_M_ask 20 = .ok (.ireturn, 1) := by decide +kernel
theorem d_M_ask_21 : decode b_M_ask 21 = .ok (.aload_n 0, 1) := by decide +kernel
theorem d_M_ask_22 : decode b_M_ask 22 = .ok (.iload_n 3, 1) := by decide +kernel
theorem d_M_ask_23 : decode b_M_ask 23 = .ok (.invokevirtual 106, 3) := by decide +kernel
theorem d_M_ask_26 : decode b_M_ask 26 = .ok (.ifCond .ne 6, 3) := by decide +kernel
theorem d_M_ask_29 : decode b_M_ask 29 = .ok (.bipush (-2), 2) := by decide +kernel
theorem d_M_ask_31 : decode b_M_ask 31 = .ok (.ireturn, 1) := by decide +kernel
theorem d_M_ask_32 : decode b_M_ask 32 = .ok (.aload_n 0, 1) := by decide +kernel
theorem d_M_ask_33 : decode b_M_ask 33 = .ok (.iload_n 1, 1) := by decide +kernel
theorem d_M_ask_34 : decode b_M_ask 34 = .ok (.invokevirtual 83, 3) := by decide +kernel
theorem d_M_ask_37 : decode b_M_ask 37 = .ok (.ifCond .ge 7, 3) := by decide +kernel
theorem d_M_ask_40 : decode b_M_ask 40 = .ok (.iconst 1, 1) := by decide +kernel
theorem d_M_ask_41 : decode b_M_ask 41 = .ok (.goto 4, 3) := by decide +kernel
theorem d_M_ask_44 : decode b_M_ask 44 = .ok (.iconst 0, 1) := by decide +kernel
theorem d_M_ask_45 : decode b_M_ask 45 = .ok (.istore 4, 2) := by decide +kernel
theorem d_M_ask_47 : decode b_M_ask 47 = .ok (.iconst 0, 1) := by decide +kernel
theorem d_M_ask_48 : decode b_M_ask 48 = .ok (.istore 5, 2) := by decide +kernel
theorem d_M_ask_50 : decode b_M_ask 50 = .ok (.iload 5, 2) := by decide +kernel
theorem d_M_ask_52 : decode b_M_ask 52 = .ok (.aload_n 0, 1) := by decide +kernel
theorem d_M_ask_53 : decode b_M_ask 53 = .ok (.getfield 97, 3) := by decide +kernel
theorem d_M_ask_56 : decode b_M_ask 56 = .ok (.if_icmp .ge 52, 3) := by decide +kernel
theorem d_M_ask_59 : decode b_M_ask 59 = .ok (.iload 4, 2) := by decide +kernel
theorem d_M_ask_61 : decode b_M_ask 61 = .ok (.ifCond .ne 34, 3) := by decide +kernel
theorem d_M_ask_64 : decode b_M_ask 64 = .ok (.aload_n 0, 1) := by decide +kernel
theorem d_M_ask_65 : decode b_M_ask 65 = .ok (.getfield 43, 3) := by decide +kernel
theorem d_M_ask_68 : decode b_M_ask 68 = .ok (.iload 5, 2) := by decide +kernel
theorem d_M_ask_70 : decode b_M_ask 70 = .ok (.iaload, 1) := by decide +kernel
theorem d_M_ask_71 : decode b_M_ask 71 = .ok (.iload_n 1, 1) := by decide +kernel
theorem d_M_ask_72 : decode b_M_ask 72 = .ok (.if_icmp .ne 27, 3) := by decide +kernel
theorem d_M_ask_75 : decode b_M_ask 75 = .ok (.aload_n 0, 1) := by decide +kernel
theorem d_M_ask_76 : decode b_M_ask 76 = .ok (.getfield 46, 3) := by decide +kernel
theorem d_M_ask_79 : decode b_M_ask 79 = .ok (.iload 5, 2) := by decide +kernel
theorem d_M_ask_81 : decode b_M_ask 81 = .ok (.iaload, 1) := by decide +kernel
theorem d_M_ask_82 : decode b_M_ask 82 = .ok (.iload_n 2, 1) := by decide +kernel
theorem d_M_ask_83 : decode b_M_ask 83 = .ok (.if_icmp .ne 16, 3) := by decide +kernel
theorem d_M_ask_86 : decode b_M_ask 86 = .ok (.aload_n 0, 1) := by decide +kernel
theorem d_M_ask_87 : decode b_M_ask 87 = .ok (.iload 5, 2) := by decide +kernel
theorem d_M_ask_89 : decode b_M_ask 89 = .ok (.invokevirtual 100, 3) := by decide +kernel
theorem d_M_ask_92 : decode b_M_ask 92 = .ok (.ifCond .eq 7, 3) := by decide +kernel
theorem d_M_ask_95 : decode b_M_ask 95 = .ok (.iconst 1, 1) := by decide +kernel
theorem d_M_ask_96 : decode b_M_ask 96 = .ok (.goto 4, 3) := by decide +kernel
theorem d_M_ask_99 : decode b_M_ask 99 = .ok (.iconst 0, 1) := by decide +kernel
theorem d_M_ask_100 : decode b_M_ask 100 = .ok (.istore 4, 2) := by decide +kernel
theorem d_M_ask_102 : decode b_M_ask 102 = .ok (.iinc 5 1, 3) := by decide +kernel
theorem d_M_ask_105 : decode b_M_ask 105 = .ok (.goto (-55), 3) := by decide +kernel
theorem d_M_ask_108 : decode b_M_ask 108 = .ok (.iload 4, 2) := by decide +kernel
theorem d_M_ask_110 : decode b_M_ask 110 = .ok (.ifCond .eq 6, 3) := by decide +kernel
theorem d_M_ask_113 : decode b_M_ask 113 = .ok (.bipush (-3), 2) := by decide +kernel
theorem d_M_ask_115 : decode b_M_ask 115 = .ok (.ireturn, 1) := by decide +kernel
theorem d_M_ask_116 : decode b_M_ask 116 = .ok (.aload_n 0, 1) := by decide +kernel
theorem d_M_ask_117 : decode b_M_ask 117 = .ok (.getfield 16, 3) := by decide +kernel
theorem d_M_ask_120 : decode b_M_ask 120 = .ok (.iload_n 1, 1) := by decide +kernel
theorem d_M_ask_121 : decode b_M_ask 121 = .ok (.iaload, 1) := by decide +kernel
theorem d_M_ask_122 : decode b_M_ask 122 = .ok (.aload_n 0, 1) := by decide +kernel
theorem d_M_ask_123 : decode b_M_ask 123 = .ok (.getfield 37, 3) := by decide +kernel
theorem d_M_ask_126 : decode b_M_ask 126 = .ok (.iload_n 2, 1) := by decide +kernel
theorem d_M_ask_127 : decode b_M_ask 127 = .ok (.iaload, 1) := by decide +kernel
theorem d_M_ask_128 : decode b_M_ask 128 = .ok (.if_icmp .ge 6, 3) := by decide +kernel
theorem d_M_ask_131 : decode b_M_ask 131 = .ok (.bipush (-5), 2) := by decide +kernel
theorem d_M_ask_133 : decode b_M_ask 133 = .ok (.ireturn, 1) := by decide +kernel
theorem d_M_ask_134 : decode b_M_ask 134 = .ok (.aload_n 0, 1) := by decide +kernel
theorem d_M_ask_135 : decode b_M_ask 135 = .ok (.iload_n 1, 1) := by decide +kernel
theorem d_M_ask_136 : decode b_M_ask 136 = .ok (.invokevirtual 109, 3) := by decide +kernel
theorem d_M_ask_139 : decode b_M_ask 139 = .ok (.aload_n 0, 1) := by decide +kernel
theorem d_M_ask_140 : decode b_M_ask 140 = .ok (.getfield 19, 3) := by decide +kernel
theorem d_M_ask_143 : decode b_M_ask 143 = .ok (.iload_n 1, 1) := by decide +kernel
theorem d_M_ask_144 : decode b_M_ask 144 = .ok (.iaload, 1) := by decide +kernel
theorem d_M_ask_145 : decode b_M_ask 145 = .ok (.if_icmp .ge 13, 3) := by decide +kernel
theorem d_M_ask_148 : decode b_M_ask 148 = .ok (.aload_n 0, 1) := by decide +kernel
theorem d_M_ask_149 : decode b_M_ask 149 = .ok (.getfield 97, 3) := by decide +kernel
theorem d_M_ask_152 : decode b_M_ask 152 = .ok (.sipush 300, 3) := by decide +kernel
theorem d_M_ask_155 : decode b_M_ask 155 = .ok (.if_icmp .ne 6, 3) := by decide +kernel
theorem d_M_ask_158 : decode b_M_ask 158 = .ok (.bipush (-4), 2) := by decide +kernel
theorem d_M_ask_160 : decode b_M_ask 160 = .ok (.ireturn, 1) := by decide +kernel
theorem d_M_ask_161 : decode b_M_ask 161 = .ok (.aload_n 0, 1) := by decide +kernel
theorem d_M_ask_162 : decode b_M_ask 162 = .ok (.iload_n 3, 1) := by decide +kernel
theorem d_M_ask_163 : decode b_M_ask 163 = .ok (.putfield 72, 3) := by decide +kernel
theorem d_M_ask_166 : decode b_M_ask 166 = .ok (.aload_n 0, 1) := by decide +kernel
theorem d_M_ask_167 : decode b_M_ask 167 = .ok (.getfield 43, 3) := by decide +kernel
theorem d_M_ask_170 : decode b_M_ask 170 = .ok (.aload_n 0, 1) := by decide +kernel
theorem d_M_ask_171 : decode b_M_ask 171 = .ok (.getfield 97, 3) := by decide +kernel
theorem d_M_ask_174 : decode b_M_ask 174 = .ok (.iload_n 1, 1) := by decide +kernel
theorem d_M_ask_175 : decode b_M_ask 175 = .ok (.iastore, 1) := by decide +kernel
theorem d_M_ask_176 : decode b_M_ask 176 = .ok (.aload_n 0, 1) := by decide +kernel
theorem d_M_ask_177 : decode b_M_ask 177 = .ok (.getfield 46, 3) := by decide +kernel
theorem d_M_ask_180 : decode b_M_ask 180 = .ok (.aload_n 0, 1) := by decide +kernel
theorem d_M_ask_181 : decode b_M_ask 181 = .ok (.getfield 97, 3) := by decide +kernel
theorem d_M_ask_184 : decode b_M_ask 184 = .ok (.iload_n 2, 1) := by decide +kernel
theorem d_M_ask_185 : decode b_M_ask 185 = .ok (.iastore, 1) := by decide +kernel
theorem d_M_ask_186 : decode b_M_ask 186 = .ok (.aload_n 0, 1) := by decide +kernel
theorem d_M_ask_187 : decode b_M_ask 187 = .ok (.getfield 49, 3) := by decide +kernel
theorem d_M_ask_190 : decode b_M_ask 190 = .ok (.aload_n 0, 1) := by decide +kernel
theorem d_M_ask_191 : decode b_M_ask 191 = .ok (.getfield 97, 3) := by decide +kernel
theorem d_M_ask_194 : decode b_M_ask 194 = .ok (.iconst 0, 1) := by decide +kernel
theorem d_M_ask_195 : decode b_M_ask 195 = .ok (.iastore, 1) := by decide +kernel
theorem d_M_ask_196 : decode b_M_ask 196 = .ok (.aload_n 0, 1) := by decide +kernel
theorem d_M_ask_197 : decode b_M_ask 197 = .ok (.getfield 52, 3) := by decide +kernel
theorem d_M_ask_200 : decode b_M_ask 200 = .ok (.aload_n 0, 1) := by decide +kernel
theorem d_M_ask_201 : decode b_M_ask 201 = .ok (.getfield 97, 3) := by decide +kernel
theorem d_M_ask_204 : decode b_M_ask 204 = .ok (.iload_n 3, 1) := by decide +kernel
theorem d_M_ask_205 : decode b_M_ask 205 = .ok (.iastore, 1) := by decide +kernel
theorem d_M_ask_206 : decode b_M_ask 206 = .ok (.aload_n 0, 1) := by decide +kernel
theorem d_M_ask_207 : decode b_M_ask 207 = .ok (.getfield 55, 3) := by decide +kernel
theorem d_M_ask_210 : decode b_M_ask 210 = .ok (.aload_n 0, 1) := by decide +kernel
theorem d_M_ask_211 : decode b_M_ask 211 = .ok (.getfield 97, 3) := by decide +kernel
theorem d_M_ask_214 : decode b_M_ask 214 = .ok (.iconst (-1), 1) := by decide +kernel
theorem d_M_ask_215 : decode b_M_ask 215 = .ok (.iastore, 1) := by decide +kernel
theorem d_M_ask_216 : decode b_M_ask 216 = .ok (.aload_n 0, 1) := by decide +kernel
theorem d_M_ask_217 : decode b_M_ask 217 = .ok (.getfield 58, 3) := by decide +kernel
theorem d_M_ask_220 : decode b_M_ask 220 = .ok (.aload_n 0, 1) := by decide +kernel
theorem d_M_ask_221 : decode b_M_ask 221 = .ok (.getfield 97, 3) := by decide +kernel
theorem d_M_ask_224 : decode b_M_ask 224 = .ok (.iconst (-1), 1) := by decide +kernel
theorem d_M_ask_225 : decode b_M_ask 225 = .ok (.iastore, 1) := by decide +kernel
theorem d_M_ask_226 : decode b_M_ask 226 = .ok (.aload_n 0, 1) := by decide +kernel
theorem d_M_ask_227 : decode b_M_ask 227 = .ok (.dup, 1) := by decide +kernel
theorem d_M_ask_228 : decode b_M_ask 228 = .ok (.getfield 97, 3) := by decide +kernel
theorem d_M_ask_231 : decode b_M_ask 231 = .ok (.iconst 1, 1) := by decide +kernel
theorem d_M_ask_232 : decode b_M_ask 232 = .ok (.iadd, 1) := by decide +kernel
theorem d_M_ask_233 : decode b_M_ask 233 = .ok (.putfield 97, 3) := by decide +kernel
theorem d_M_ask_236 : decode b_M_ask 236 = .ok (.aload_n 0, 1) := by decide +kernel
theorem d_M_ask_237 : decode b_M_ask 237 = .ok (.getfield 97, 3) := by decide +kernel
theorem d_M_ask_240 : decode b_M_ask 240 = .ok (.iconst 1, 1) := by decide +kernel
theorem d_M_ask_241 : decode b_M_ask 241 = .ok (.isub, 1) := by decide +kernel
theorem d_M_ask_242 : decode b_M_ask 242 = .ok (.ireturn, 1) := by decide +kernel
theorem d_M_fetchFor_0 : decode b_M_fetchFor 0 = .ok (.aload_n 0, 1) := by decide +kernel
theorem d_M_fetchFor_1 : decode b_M_fetchFor 1 = .ok (.getfield 31, 3) := by decide +kernel
theorem d_M_fetchFor_4 : decode b_M_fetchFor 4 = .ok (.iload_n 1, 1) := by decide +kernel
theorem d_M_fetchFor_5 : decode b_M_fetchFor 5 = .ok (.iconst 1, 1) := by decide +kernel
theorem d_M_fetchFor_6 : decode b_M_fetchFor 6 = .ok (.iastore, 1) := by decide +kernel
theorem d_M_fetchFor_7 : decode b_M_fetchFor 7 = .ok (.aload_n 0, 1) := by decide +kernel
theorem d_M_fetchFor_8 : decode b_M_fetchFor 8 = .ok (.getfield 40, 3) := by decide +kernel
theorem d_M_fetchFor_11 : decode b_M_fetchFor 11 = .ok (.iload_n 1, 1) := by decide +kernel
theorem d_M_fetchFor_12 : decode b_M_fetchFor 12 = .ok (.iload_n 2, 1) := by decide +kernel
theorem d_M_fetchFor_13 : decode b_M_fetchFor 13 = .ok (.iastore, 1) := by decide +kernel
theorem d_M_fetchFor_14 : decode b_M_fetchFor 14 = .ok (.aload_n 0, 1) := by decide +kernel
theorem d_M_fetchFor_15 : decode b_M_fetchFor 15 = .ok (.getfield 49, 3) := by decide +kernel
theorem d_M_fetchFor_18 : decode b_M_fetchFor 18 = .ok (.iload_n 2, 1) := by decide +kernel
theorem d_M_fetchFor_19 : decode b_M_fetchFor 19 = .ok (.iconst 1, 1) := by decide +kernel
theorem d_M_fetchFor_20 : decode b_M_fetchFor 20 = .ok (.iastore, 1) := by decide +kernel
theorem d_M_fetchFor_21 : decode b_M_fetchFor 21 = .ok (.iload_n 2, 1) := by decide +kernel
theorem d_M_fetchFor_22 : decode b_M_fetchFor 22 = .ok (.ireturn, 1) := by decide +kernel
theorem d_M_fetch_0 : decode b_M_fetch 0 = .ok (.aload_n 0, 1) := by decide +kernel
theorem d_M_fetch_1 : decode b_M_fetch 1 = .ok (.iconst 0, 1) := by decide +kernel
theorem d_M_fetch_2 : decode b_M_fetch 2 = .ok (.putfield 65, 3) := by decide +kernel
theorem d_M_fetch_5 : decode b_M_fetch 5 = .ok (.iload_n 1, 1) := by decide +kernel
theorem d_M_fetch_6 : decode b_M_fetch 6 = .ok (.invokestatic 103, 3) := by decide +kernel
theorem d_M_fetch_9 : decode b_M_fetch 9 = .ok (.ifCond .ne 5, 3) := by decide +kernel
theorem d_M_fetch_12 : decode b_M_fetch 12 = .ok (.iconst (-1), 1) := by decide +kernel
theorem d_M_fetch_13 : decode b_M_fetch 13 = .ok (.ireturn, 1) := by decide +kernel
theorem d_M_fetch_14 : decode b_M_fetch 14 = .ok (.aload_n 0, 1) := by decide +kernel
theorem d_M_fetch_15 : decode b_M_fetch 15 = .ok (.iload_n 2, 1) := by decide +kernel
theorem d_M_fetch_16 : decode b_M_fetch 16 = .ok (.invokevirtual 106, 3) := by decide +kernel
theorem d_M_fetch_19 : decode b_M_fetch 19 = .ok (.ifCond .ne 6, 3) := by decide +kernel
theorem d_M_fetch_22 : decode b_M_fetch 22 = .ok (.bipush (-2), 2) := by decide +kernel
theorem d_M_fetch_24 : decode b_M_fetch 24 = .ok (.ireturn, 1) := by decide +kernel
theorem d_M_fetch_25 : decode b_M_fetch 25 = .ok (.aload_n 0, 1) := by decide +kernel
theorem d_M_fetch_26 : decode b_M_fetch 26 = .ok (.getfield 31, 3) := by decide +kernel
theorem d_M_fetch_29 : decode b_M_fetch 29 = .ok (.iload_n 1, 1) := by decide +kernel
theorem d_M_fetch_30 : decode b_M_fetch 30 = .ok (.iaload, 1) := by decide +kernel
theorem d_M_fetch_31 : decode b_M_fetch 31 = .ok (.ifCond .ne 21, 3) := by decide +kernel
theorem d_M_fetch_34 : decode b_M_fetch 34 = .ok (.aload_n 0, 1) := by decide +kernel
theorem d_M_fetch_35 : decode b_M_fetch 35 = .ok (.iload_n 1, 1) := by decide +kernel
theorem d_M_fetch_36 : decode b_M_fetch 36 = .ok (.invokevirtual 112, 3) := by decide +kernel
theorem d_M_fetch_39 : decode b_M_fetch 39 = .ok (.ifCond .lt 13, 3) := by decide +kernel
theorem d_M_fetch_42 : decode b_M_fetch 42 = .ok (.aload_n 0, 1) := by decide +kernel
theorem d_M_fetch_43 : decode b_M_fetch 43 = .ok (.getfield 34, 3) := by decide +kernel
theorem d_M_fetch_46 : decode b_M_fetch 46 = .ok (.iload_n 1, 1) := by decide +kernel
theorem d_M_fetch_47 : decode b_M_fetch 47 = .ok (.iaload, 1) := by decide +kernel
theorem d_M_fetch_48 : decode b_M_fetch 48 = .ok (.iconst 3, 1) := by decide +kernel
theorem d_M_fetch_49 : decode b_M_fetch 49 = .ok (.if_icmp .ne 6, 3) := by decide +kernel
theorem d_M_fetch_52 : decode b_M_fetch 52 = .ok (.bipush (-3), 2) := by decide +kernel
theorem d_M_fetch_54 : decode b_M_fetch 54 = .ok (.ireturn, 1) := by decide +kernel
theorem d_M_fetch_55 : decode b_M_fetch 55 = .ok (.aload_n 0, 1) := by decide +kernel
theorem d_M_fetch_56 : decode b_M_fetch 56 = .ok (.iload_n 2, 1) := by decide +kernel
theorem d_M_fetch_57 : decode b_M_fetch 57 = .ok (.putfield 72, 3) := by decide +kernel
theorem d_M_fetch_60 : decode b_M_fetch 60 = .ok (.aload_n 0, 1) := by decide +kernel
theorem d_M_fetch_61 : decode b_M_fetch 61 = .ok (.iload_n 1, 1) := by decide +kernel
theorem d_M_fetch_62 : decode b_M_fetch 62 = .ok (.aload_n 0, 1) := by decide +kernel
theorem d_M_fetch_63 : decode b_M_fetch 63 = .ok (.iload_n 1, 1) := by decide +kernel
theorem d_M_fetch_64 : decode b_M_fetch 64 = .ok (.invokevirtual 112, 3) := by decide +kernel
theorem d_M_fetch_67 : decode b_M_fetch 67 = .ok (.invokevirtual 115, 3) := by decide +kernel
theorem d_M_fetch_70 : decode b_M_fetch 70 = .ok (.ireturn, 1) := by decide +kernel
theorem d_M_handOut_0 : decode b_M_handOut 0 = .ok (.aload_n 0, 1) := by decide +kernel
theorem d_M_handOut_1 : decode b_M_handOut 1 = .ok (.iconst 0, 1) := by decide +kernel
theorem d_M_handOut_2 : decode b_M_handOut 2 = .ok (.putfield 65, 3) := by decide +kernel
theorem d_M_handOut_5 : decode b_M_handOut 5 = .ok (.iload_n 1, 1) := by decide +kernel
theorem d_M_handOut_6 : decode b_M_handOut 6 = .ok (.invokestatic 103, 3) := by decide +kernel
theorem d_M_handOut_9 : decode b_M_handOut 9 = .ok (.ifCond .ne 5, 3) := by decide +kernel
theorem d_M_handOut_12 : decode b_M_handOut 12 = .ok (.iconst (-1), 1) := by decide +kernel
theorem d_M_handOut_13 : decode b_M_handOut 13 = .ok (.ireturn, 1) := by decide +kernel
theorem d_M_handOut_14 : decode b_M_handOut 14 = .ok (.aload_n 0, 1) := by decide +kernel
theorem d_M_handOut_15 : decode b_M_handOut 15 = .ok (.iload_n 2, 1) := by decide +kernel
theorem d_M_handOut_16 : decode b_M_handOut 16 = .ok (.invokevirtual 106, 3) := by decide +kernel
theorem d_M_handOut_19 : decode b_M_handOut 19 = .ok (.ifCond .ne 6, 3) := by decide +kernel
theorem d_M_handOut_22 : decode b_M_handOut 22 = .ok (.bipush (-2), 2) := by decide +kernel
theorem d_M_handOut_24 : decode b_M_handOut 24 = .ok (.ireturn, 1) := by decide +kernel
theorem d_M_handOut_25 : decode b_M_handOut 25 = .ok (.aload_n 0, 1) := by decide +kernel
theorem d_M_handOut_26 : decode b_M_handOut 26 = .ok (.getfield 31, 3) := by decide +kernel
theorem d_M_handOut_29 : decode b_M_handOut 29 = .ok (.iload_n 1, 1) := by decide +kernel
theorem d_M_handOut_30 : decode b_M_handOut 30 = .ok (.iaload, 1) := by decide +kernel
theorem d_M_handOut_31 : decode b_M_handOut 31 = .ok (.iconst 1, 1) := by decide +kernel
theorem d_M_handOut_32 : decode b_M_handOut 32 = .ok (.if_icmp .ne 21, 3) := by decide +kernel
theorem d_M_handOut_35 : decode b_M_handOut 35 = .ok (.aload_n 0, 1) := by decide +kernel
theorem d_M_handOut_36 : decode b_M_handOut 36 = .ok (.aload_n 0, 1) := by decide +kernel
theorem d_M_handOut_37 : decode b_M_handOut 37 = .ok (.getfield 43, 3) := by decide +kernel
theorem d_M_handOut_40 : decode b_M_handOut 40 = .ok (.aload_n 0, 1) := by decide +kernel
theorem d_M_handOut_41 : decode b_M_handOut 41 = .ok (.getfield 40, 3) := by decide +kernel
theorem d_M_handOut_44 : decode b_M_handOut 44 = .ok (.iload_n 1, 1) := by decide +kernel
theorem d_M_handOut_45 : decode b_M_handOut 45 = .ok (.iaload, 1) := by decide +kernel
theorem d_M_handOut_46 : decode b_M_handOut 46 = .ok (.iaload, 1) := by decide +kernel
theorem d_M_handOut_47 : decode b_M_handOut 47 = .ok (.invokevirtual 83, 3) := by decide +kernel
theorem d_M_handOut_50 : decode b_M_handOut 50 = .ok (.ifCond .ge 6, 3) := by decide +kernel
theorem d_M_handOut_53 : decode b_M_handOut 53 = .ok (.bipush (-3), 2) := by decide +kernel
theorem d_M_handOut_55 : decode b_M_handOut 55 = .ok (.ireturn, 1) := by decide +kernel
theorem d_M_handOut_56 : decode b_M_handOut 56 = .ok (.aload_n 0, 1) := by decide +kernel
theorem d_M_handOut_57 : decode b_M_handOut 57 = .ok (.getfield 40, 3) := by decide +kernel
theorem d_M_handOut_60 : decode b_M_handOut 60 = .ok (.iload_n 1, 1) := by decide +kernel
theorem d_M_handOut_61 : decode b_M_handOut 61 = .ok (.iaload, 1) := by decide +kernel
theorem d_M_handOut_62 : decode b_M_handOut 62 = .ok (.istore_n 3, 1) := by decide +kernel
theorem d_M_handOut_63 : decode b_M_handOut 63 = .ok (.aload_n 0, 1) := by decide +kernel
theorem d_M_handOut_64 : decode b_M_handOut 64 = .ok (.getfield 16, 3) := by decide +kernel
theorem d_M_handOut_67 : decode b_M_handOut 67 = .ok (.aload_n 0, 1) := by decide +kernel
theorem d_M_handOut_68 : decode b_M_handOut 68 = .ok (.getfield 43, 3) := by decide +kernel
theorem d_M_handOut_71 : decode b_M_handOut 71 = .ok (.iload_n 3, 1) := by decide +kernel
theorem d_M_handOut_72 : decode b_M_handOut 72 = .ok (.iaload, 1) := by decide +kernel
theorem d_M_handOut_73 : decode b_M_handOut 73 = .ok (.iaload, 1) := by decide +kernel
theorem d_M_handOut_74 : decode b_M_handOut 74 = .ok (.aload_n 0, 1) := by decide +kernel
theorem d_M_handOut_75 : decode b_M_handOut 75 = .ok (.getfield 37, 3) := by decide +kernel
theorem d_M_handOut_78 : decode b_M_handOut 78 = .ok (.iload_n 1, 1) := by decide +kernel
theorem d_M_handOut_79 : decode b_M_handOut 79 = .ok (.iaload, 1) := by decide +kernel
theorem d_M_handOut_80 : decode b_M_handOut 80 = .ok (.if_icmp .ge 6, 3) := by decide +kernel
theorem d_M_handOut_83 : decode b_M_handOut 83 = .ok (.bipush (-5), 2) := by decide +kernel
theorem d_M_handOut_85 : decode b_M_handOut 85 = .ok (.ireturn, 1) := by decide +kernel
theorem d_M_handOut_86 : decode b_M_handOut 86 = .ok (.aload_n 0, 1) := by decide +kernel
theorem d_M_handOut_87 : decode b_M_handOut 87 = .ok (.iload_n 2, 1) := by decide +kernel
theorem d_M_handOut_88 : decode b_M_handOut 88 = .ok (.putfield 72, 3) := by decide +kernel
theorem d_M_handOut_91 : decode b_M_handOut 91 = .ok (.aload_n 0, 1) := by decide +kernel
theorem d_M_handOut_92 : decode b_M_handOut 92 = .ok (.getfield 31, 3) := by decide +kernel
theorem d_M_handOut_95 : decode b_M_handOut 95 = .ok (.iload_n 1, 1) := by decide +kernel
theorem d_M_handOut_96 : decode b_M_handOut 96 = .ok (.iconst 2, 1) := by decide +kernel
theorem d_M_handOut_97 : decode b_M_handOut 97 = .ok (.iastore, 1) := by decide +kernel
theorem d_M_handOut_98 : decode b_M_handOut 98 = .ok (.aload_n 0, 1) := by decide +kernel
theorem d_M_handOut_99 : decode b_M_handOut 99 = .ok (.getfield 49, 3) := by decide +kernel
theorem d_M_handOut_102 : decode b_M_handOut 102 = .ok (.iload_n 3, 1) := by decide +kernel
theorem d_M_handOut_103 : decode b_M_handOut 103 = .ok (.iconst 2, 1) := by decide +kernel
theorem d_M_handOut_104 : decode b_M_handOut 104 = .ok (.iastore, 1) := by decide +kernel
theorem d_M_handOut_105 : decode b_M_handOut 105 = .ok (.aload_n 0, 1) := by decide +kernel
theorem d_M_handOut_106 : decode b_M_handOut 106 = .ok (.getfield 55, 3) := by decide +kernel
theorem d_M_handOut_109 : decode b_M_handOut 109 = .ok (.iload_n 3, 1) := by decide +kernel
theorem d_M_handOut_110 : decode b_M_handOut 110 = .ok (.iload_n 2, 1) := by decide +kernel
theorem d_M_handOut_111 : decode b_M_handOut 111 = .ok (.iastore, 1) := by decide +kernel
theorem d_M_handOut_112 : decode b_M_handOut 112 = .ok (.aload_n 0, 1) := by decide +kernel
theorem d_M_handOut_113 : decode b_M_handOut 113 = .ok (.getfield 43, 3) := by decide +kernel
theorem d_M_handOut_116 : decode b_M_handOut 116 = .ok (.iload_n 3, 1) := by decide +kernel
theorem d_M_handOut_117 : decode b_M_handOut 117 = .ok (.iaload, 1) := by decide +kernel
theorem d_M_handOut_118 : decode b_M_handOut 118 = .ok (.ireturn, 1) := by decide +kernel
theorem d_M_back_0 : decode b_M_back 0 = .ok (.aload_n 0, 1) := by decide +kernel
theorem d_M_back_1 : decode b_M_back 1 = .ok (.iconst 0, 1) := by decide +kernel
theorem d_M_back_2 : decode b_M_back 2 = .ok (.putfield 65, 3) := by decide +kernel
theorem d_M_back_5 : decode b_M_back 5 = .ok (.iload_n 1, 1) := by decide +kernel
theorem d_M_back_6 : decode b_M_back 6 = .ok (.invokestatic 103, 3) := by decide +kernel
theorem d_M_back_9 : decode b_M_back 9 = .ok (.ifCond .ne 5, 3) := by decide +kernel
theorem d_M_back_12 : decode b_M_back 12 = .ok (.iconst (-1), 1) := by decide +kernel
theorem d_M_back_13 : decode b_M_back 13 = .ok (.ireturn, 1) := by decide +kernel
theorem d_M_back_14 : decode b_M_back 14 = .ok (.aload_n 0, 1) := by decide +kernel
theorem d_M_back_15 : decode b_M_back 15 = .ok (.iload_n 2, 1) := by decide +kernel
theorem d_M_back_16 : decode b_M_back 16 = .ok (.invokevirtual 106, 3) := by decide +kernel
theorem d_M_back_19 : decode b_M_back 19 = .ok (.ifCond .ne 6, 3) := by decide +kernel
theorem d_M_back_22 : decode b_M_back 22 = .ok (.bipush (-2), 2) := by decide +kernel
theorem d_M_back_24 : decode b_M_back 24 = .ok (.ireturn, 1) := by decide +kernel
theorem d_M_back_25 : decode b_M_back 25 = .ok (.aload_n 0, 1) := by decide +kernel
theorem d_M_back_26 : decode b_M_back 26 = .ok (.getfield 31, 3) := by decide +kernel
theorem d_M_back_29 : decode b_M_back 29 = .ok (.iload_n 1, 1) := by decide +kernel
theorem d_M_back_30 : decode b_M_back 30 = .ok (.iaload, 1) := by decide +kernel
theorem d_M_back_31 : decode b_M_back 31 = .ok (.iconst 2, 1) := by decide +kernel
theorem d_M_back_32 : decode b_M_back 32 = .ok (.if_icmp .eq 6, 3) := by decide +kernel
theorem d_M_back_35 : decode b_M_back 35 = .ok (.bipush (-3), 2) := by decide +kernel
theorem d_M_back_37 : decode b_M_back 37 = .ok (.ireturn, 1) := by decide +kernel
theorem d_M_back_38 : decode b_M_back 38 = .ok (.aload_n 0, 1) := by decide +kernel
theorem d_M_back_39 : decode b_M_back 39 = .ok (.iload_n 2, 1) := by decide +kernel
theorem d_M_back_40 : decode b_M_back 40 = .ok (.putfield 72, 3) := by decide +kernel
theorem d_M_back_43 : decode b_M_back 43 = .ok (.aload_n 0, 1) := by decide +kernel
theorem d_M_back_44 : decode b_M_back 44 = .ok (.getfield 31, 3) := by decide +kernel
theorem d_M_back_47 : decode b_M_back 47 = .ok (.iload_n 1, 1) := by decide +kernel
theorem d_M_back_48 : decode b_M_back 48 = .ok (.iconst 3, 1) := by decide +kernel
theorem d_M_back_49 : decode b_M_back 49 = .ok (.iastore, 1) := by decide +kernel
theorem d_M_back_50 : decode b_M_back 50 = .ok (.aload_n 0, 1) := by decide +kernel
theorem d_M_back_51 : decode b_M_back 51 = .ok (.getfield 49, 3) := by decide +kernel
theorem d_M_back_54 : decode b_M_back 54 = .ok (.aload_n 0, 1) := by decide +kernel
theorem d_M_back_55 : decode b_M_back 55 = .ok (.getfield 40, 3) := by decide +kernel
theorem d_M_back_58 : decode b_M_back 58 = .ok (.iload_n 1, 1) := by decide +kernel
theorem d_M_back_59 : decode b_M_back 59 = .ok (.iaload, 1) := by decide +kernel
theorem d_M_back_60 : decode b_M_back 60 = .ok (.iconst 3, 1) := by decide +kernel
theorem d_M_back_61 : decode b_M_back 61 = .ok (.iastore, 1) := by decide +kernel
theorem d_M_back_62 : decode b_M_back 62 = .ok (.aload_n 0, 1) := by decide +kernel
theorem d_M_back_63 : decode b_M_back 63 = .ok (.getfield 58, 3) := by decide +kernel
theorem d_M_back_66 : decode b_M_back 66 = .ok (.aload_n 0, 1) := by decide +kernel
theorem d_M_back_67 : decode b_M_back 67 = .ok (.getfield 40, 3) := by decide +kernel
theorem d_M_back_70 : decode b_M_back 70 = .ok (.iload_n 1, 1) := by decide +kernel
theorem d_M_back_71 : decode b_M_back 71 = .ok (.iaload, 1) := by decide +kernel
theorem d_M_back_72 : decode b_M_back 72 = .ok (.iload_n 2, 1) := by decide +kernel
theorem d_M_back_73 : decode b_M_back 73 = .ok (.iastore, 1) := by decide +kernel
theorem d_M_back_74 : decode b_M_back 74 = .ok (.aload_n 0, 1) := by decide +kernel
theorem d_M_back_75 : decode b_M_back 75 = .ok (.getfield 40, 3) := by decide +kernel
theorem d_M_back_78 : decode b_M_back 78 = .ok (.iload_n 1, 1) := by decide +kernel
theorem d_M_back_79 : decode b_M_back 79 = .ok (.iaload, 1) := by decide +kernel
theorem d_M_back_80 : decode b_M_back 80 = .ok (.ireturn, 1) := by decide +kernel
theorem d_M_look_0 : decode b_M_look 0 = .ok (.aload_n 0, 1) := by decide +kernel
theorem d_M_look_1 : decode b_M_look 1 = .ok (.iconst 0, 1) := by decide +kernel
theorem d_M_look_2 : decode b_M_look 2 = .ok (.putfield 65, 3) := by decide +kernel
theorem d_M_look_5 : decode b_M_look 5 = .ok (.iload_n 1, 1) := by decide +kernel
theorem d_M_look_6 : decode b_M_look 6 = .ok (.invokestatic 103, 3) := by decide +kernel
theorem d_M_look_9 : decode b_M_look 9 = .ok (.ifCond .ne 5, 3) := by decide +kernel
theorem d_M_look_12 : decode b_M_look 12 = .ok (.iconst (-1), 1) := by decide +kernel
theorem d_M_look_13 : decode b_M_look 13 = .ok (.ireturn, 1) := by decide +kernel
theorem d_M_look_14 : decode b_M_look 14 = .ok (.iload_n 2, 1) := by decide +kernel
theorem d_M_look_15 : decode b_M_look 15 = .ok (.aload_n 0, 1) := by decide +kernel
theorem d_M_look_16 : decode b_M_look 16 = .ok (.getfield 34, 3) := by decide +kernel
theorem d_M_look_19 : decode b_M_look 19 = .ok (.iload_n 1, 1) := by decide +kernel
theorem d_M_look_20 : decode b_M_look 20 = .ok (.iaload, 1) := by decide +kernel
theorem d_M_look_21 : decode b_M_look 21 = .ok (.iconst 3, 1) := by decide +kernel
theorem d_M_look_22 : decode b_M_look 22 = .ok (.invokestatic 68, 3) := by decide +kernel
theorem d_M_look_25 : decode b_M_look 25 = .ok (.ifCond .ne 6, 3) := by decide +kernel
theorem d_M_look_28 : decode b_M_look 28 = .ok (.bipush (-2), 2) := by decide +kernel
theorem d_M_look_30 : decode b_M_look 30 = .ok (.ireturn, 1) := by decide +kernel
theorem d_M_look_31 : decode b_M_look 31 = .ok (.aload_n 0, 1) := by decide +kernel
theorem d_M_look_32 : decode b_M_look 32 = .ok (.getfield 31, 3) := by decide +kernel
theorem d_M_look_35 : decode b_M_look 35 = .ok (.iload_n 1, 1) := by decide +kernel
theorem d_M_look_36 : decode b_M_look 36 = .ok (.iaload, 1) := by decide +kernel
theorem d_M_look_37 : decode b_M_look 37 = .ok (.iconst 3, 1) := by decide +kernel
theorem d_M_look_38 : decode b_M_look 38 = .ok (.if_icmp .eq 6, 3) := by decide +kernel
theorem d_M_look_41 : decode b_M_look 41 = .ok (.bipush (-3), 2) := by decide +kernel
theorem d_M_look_43 : decode b_M_look 43 = .ok (.ireturn, 1) := by decide +kernel
theorem d_M_look_44 : decode b_M_look 44 = .ok (.aload_n 0, 1) := by decide +kernel
theorem d_M_look_45 : decode b_M_look 45 = .ok (.getfield 34, 3) := by decide +kernel
theorem d_M_look_48 : decode b_M_look 48 = .ok (.iload_n 1, 1) := by decide +kernel
theorem d_M_look_49 : decode b_M_look 49 = .ok (.iload_n 2, 1) := by decide +kernel
theorem d_M_look_50 : decode b_M_look 50 = .ok (.iastore, 1) := by decide +kernel
theorem d_M_look_51 : decode b_M_look 51 = .ok (.iload_n 2, 1) := by decide +kernel
theorem d_M_look_52 : decode b_M_look 52 = .ok (.iconst 2, 1) := by decide +kernel
theorem d_M_look_53 : decode b_M_look 53 = .ok (.if_icmp .ge 22, 3) := by decide +kernel
theorem d_M_look_56 : decode b_M_look 56 = .ok (.aload_n 0, 1) := by decide +kernel
theorem d_M_look_57 : decode b_M_look 57 = .ok (.iload_n 1, 1) := by decide +kernel
theorem d_M_look_58 : decode b_M_look 58 = .ok (.invokevirtual 112, 3) := by decide +kernel
theorem d_M_look_61 : decode b_M_look 61 = .ok (.ifCond .lt 14, 3) := by decide +kernel
theorem d_M_look_64 : decode b_M_look 64 = .ok (.aload_n 0, 1) := by decide +kernel
theorem d_M_look_65 : decode b_M_look 65 = .ok (.iload_n 1, 1) := by decide +kernel
theorem d_M_look_66 : decode b_M_look 66 = .ok (.aload_n 0, 1) := by decide +kernel
theorem d_M_look_67 : decode b_M_look 67 = .ok (.iload_n 1, 1) := by decide +kernel
theorem d_M_look_68 : decode b_M_look 68 = .ok (.invokevirtual 112, 3) := by decide +kernel
theorem d_M_look_71 : decode b_M_look 71 = .ok (.invokevirtual 115, 3) := by decide +kernel
theorem d_M_look_74 : decode b_M_look 74 = .ok (.ireturn, 1) := by decide +kernel
theorem d_M_look_75 : decode b_M_look 75 = .ok (.aload_n 0, 1) := by decide +kernel
theorem d_M_look_76 : decode b_M_look 76 = .ok (.getfield 31, 3) := by decide +kernel
theorem d_M_look_79 : decode b_M_look 79 = .ok (.iload_n 1, 1) := by decide +kernel
theorem d_M_look_80 : decode b_M_look 80 = .ok (.iconst 0, 1) := by decide +kernel
theorem d_M_look_81 : decode b_M_look 81 = .ok (.iastore, 1) := by decide +kernel
theorem d_M_look_82 : decode b_M_look 82 = .ok (.aload_n 0, 1) := by decide +kernel
theorem d_M_look_83 : decode b_M_look 83 = .ok (.getfield 40, 3) := by decide +kernel
theorem d_M_look_86 : decode b_M_look 86 = .ok (.iload_n 1, 1) := by decide +kernel
theorem d_M_look_87 : decode b_M_look 87 = .ok (.iconst (-1), 1) := by decide +kernel
theorem d_M_look_88 : decode b_M_look 88 = .ok (.iastore, 1) := by decide +kernel
theorem d_M_look_89 : decode b_M_look 89 = .ok (.sipush 1000, 3) := by decide +kernel
theorem d_M_look_92 : decode b_M_look 92 = .ok (.ireturn, 1) := by decide +kernel
theorem d_M_mend_0 : decode b_M_mend 0 = .ok (.aload_n 0, 1) := by decide +kernel
theorem d_M_mend_1 : decode b_M_mend 1 = .ok (.iconst 0, 1) := by decide +kernel
theorem d_M_mend_2 : decode b_M_mend 2 = .ok (.putfield 65, 3) := by decide +kernel
theorem d_M_mend_5 : decode b_M_mend 5 = .ok (.iload_n 1, 1) := by decide +kernel
theorem d_M_mend_6 : decode b_M_mend 6 = .ok (.invokestatic 103, 3) := by decide +kernel
theorem d_M_mend_9 : decode b_M_mend 9 = .ok (.ifCond .ne 5, 3) := by decide +kernel
theorem d_M_mend_12 : decode b_M_mend 12 = .ok (.iconst (-1), 1) := by decide +kernel
theorem d_M_mend_13 : decode b_M_mend 13 = .ok (.ireturn, 1) := by decide +kernel
theorem d_M_mend_14 : decode b_M_mend 14 = .ok (.aload_n 0, 1) := by decide +kernel
theorem d_M_mend_15 : decode b_M_mend 15 = .ok (.getfield 31, 3) := by decide +kernel
theorem d_M_mend_18 : decode b_M_mend 18 = .ok (.iload_n 1, 1) := by decide +kernel
theorem d_M_mend_19 : decode b_M_mend 19 = .ok (.iaload, 1) := by decide +kernel
theorem d_M_mend_20 : decode b_M_mend 20 = .ok (.ifCond .eq 6, 3) := by decide +kernel
theorem d_M_mend_23 : decode b_M_mend 23 = .ok (.bipush (-3), 2) := by decide +kernel
theorem d_M_mend_25 : decode b_M_mend 25 = .ok (.ireturn, 1) := by decide +kernel
theorem d_M_mend_26 : decode b_M_mend 26 = .ok (.aload_n 0, 1) := by decide +kernel
theorem d_M_mend_27 : decode b_M_mend 27 = .ok (.getfield 34, 3) := by decide +kernel
theorem d_M_mend_30 : decode b_M_mend 30 = .ok (.iload_n 1, 1) := by decide +kernel
theorem d_M_mend_31 : decode b_M_mend 31 = .ok (.iconst 0, 1) := by decide +kernel
theorem d_M_mend_32 : decode b_M_mend 32 = .ok (.iastore, 1) := by decide +kernel
theorem d_M_mend_33 : decode b_M_mend 33 = .ok (.iconst 1, 1) := by decide +kernel
theorem d_M_mend_34 : decode b_M_mend 34 = .ok (.ireturn, 1) := by decide +kernel
