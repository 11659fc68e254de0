theorem d_L_cell_0 : decode b_L_cell 0 = .ok (.iload_n 1, 1) := by decide +kernel
theorem d_L_cell_1 : decode b_L_cell 1 = .ok (.aload_n 0, 1) := by decide +kernel
theorem d_L_cell_2 : decode b_L_cell 2 = .ok (.arraylength, 1) := by decide +kernel
theorem d_L_cell_3 : decode b_L_cell 3 = .ok (.if_icmp .ge 9, 3) := by decide +kernel
theorem d_L_cell_6 : decode b_L_cell 6 = .ok (.aload_n 0, 1) := by decide +kernel
theorem d_L_cell_7 : decode b_L_cell 7 = .ok (.iload_n 1, 1) := by decide +kernel
theorem d_L_cell_8 : decode b_L_cell 8 = .ok (.iaload, 1) := by decide +kernel
theorem d_L_cell_9 : decode b_L_cell 9 = .ok (.goto 4, 3) := by decide +kernel
theorem d_L_cell_12 : decode b_L_cell 12 = .ok (.iconst 0, 1) := by decide +kernel
theorem d_L_cell_13 : decode b_L_cell 13 = .ok (.ireturn, 1) := by decide +kernel
theorem d_L_request_0 : decode b_L_request 0 = .ok (.aload_n 3, 1) := by decide +kernel
theorem d_L_request_1 : decode b_L_request 1 = .ok (.iconst 0, 1) := by decide +kernel
theorem d_L_request_2 : decode b_L_request 2 = .ok (.aload_n 0, 1) := by decide +kernel
theorem d_L_request_3 : decode b_L_request 3 = .ok (.iload_n 1, 1) := by decide +kernel
theorem d_L_request_4 : decode b_L_request 4 = .ok (.iload_n 2, 1) := by decide +kernel
theorem d_L_request_5 : decode b_L_request 5 = .ok (.invokevirtual 7, 3) := by decide +kernel
theorem d_L_request_8 : decode b_L_request 8 = .ok (.i2l, 1) := by decide +kernel
theorem d_L_request_9 : decode b_L_request 9 = .ok (.lastore, 1) := by decide +kernel
theorem d_L_request_10 : decode b_L_request 10 = .ok (.goto 7, 3) := by decide +kernel
theorem d_L_request_13 : decode b_L_request 13 = .ok (.astore 4, 2) := by decide +kernel
theorem d_L_request_15 : decode b_L_request 15 = .ok (.iconst 1, 1) := by decide +kernel
theorem d_L_request_16 : decode b_L_request 16 = .ok (.ireturn, 1) := by decide +kernel
theorem d_L_request_17 : decode b_L_request 17 = .ok (.iconst 0, 1) := by decide +kernel
theorem d_L_request_18 : decode b_L_request 18 = .ok (.ireturn, 1) := by decide +kernel
theorem d_L_waits_0 : decode b_L_waits 0 = .ok (.aload_n 3, 1) := by decide +kernel
theorem d_L_waits_1 : decode b_L_waits 1 = .ok (.iconst 0, 1) := by decide +kernel
theorem d_L_waits_2 : decode b_L_waits 2 = .ok (.aload_n 0, 1) := by decide +kernel
theorem d_L_waits_3 : decode b_L_waits 3 = .ok (.iload_n 1, 1) := by decide +kernel
theorem d_L_waits_4 : decode b_L_waits 4 = .ok (.iload_n 2, 1) := by decide +kernel
theorem d_L_waits_5 : decode b_L_waits 5 = .ok (.invokevirtual 15, 3) := by decide +kernel
theorem d_L_waits_8 : decode b_L_waits 8 = .ok (.i2l, 1) := by decide +kernel
theorem d_L_waits_9 : decode b_L_waits 9 = .ok (.lastore, 1) := by decide +kernel
theorem d_L_waits_10 : decode b_L_waits 10 = .ok (.goto 7, 3) := by decide +kernel
theorem d_L_waits_13 : decode b_L_waits 13 = .ok (.astore 4, 2) := by decide +kernel
theorem d_L_waits_15 : decode b_L_waits 15 = .ok (.iconst 1, 1) := by decide +kernel
theorem d_L_waits_16 : decode b_L_waits 16 = .ok (.ireturn, 1) := by decide +kernel
theorem d_L_waits_17 : decode b_L_waits 17 = .ok (.iconst 0, 1) := by decide +kernel
theorem d_L_waits_18 : decode b_L_waits 18 = .ok (.ireturn, 1) := by decide +kernel
theorem d_L_law_0 : decode b_L_law 0 = .ok (.new 8, 3) := by decide +kernel
theorem d_L_law_3 : decode b_L_law 3 = .ok (.dup, 1) := by decide +kernel
theorem d_L_law_4 : decode b_L_law 4 = .ok (.aload_n 0, 1) := by decide +kernel
theorem d_L_law_5 : decode b_L_law 5 = .ok (.iconst 0, 1) := by decide +kernel
theorem d_L_law_6 : decode b_L_law 6 = .ok (.invokestatic 18, 3) := by decide +kernel
theorem d_L_law_9 : decode b_L_law 9 = .ok (.invokespecial 24, 3) := by decide +kernel
theorem d_L_law_12 : decode b_L_law 12 = .ok (.astore_n 1, 1) := by decide +kernel
theorem d_L_law_13 : decode b_L_law 13 = .ok (.new 27, 3) := by decide +kernel
theorem d_L_law_16 : decode b_L_law 16 = .ok (.dup, 1) := by decide +kernel
theorem d_L_law_17 : decode b_L_law 17 = .ok (.aload_n 0, 1) := by decide +kernel
theorem d_L_law_18 : decode b_L_law 18 = .ok (.iconst 0, 1) := by decide +kernel
theorem d_L_law_19 : decode b_L_law 19 = .ok (.invokestatic 18, 3) := by decide +kernel
theorem d_L_law_22 : decode b_L_law 22 = .ok (.invokespecial 29, 3) := by decide +kernel
theorem d_L_law_25 : decode b_L_law 25 = .ok (.astore_n 2, 1) := by decide +kernel
theorem d_L_law_26 : decode b_L_law 26 = .ok (.iconst 1, 1) := by decide +kernel
theorem d_L_law_27 : decode b_L_law 27 = .ok (.newarray .long, 2) := by decide +kernel
theorem d_L_law_29 : decode b_L_law 29 = .ok (.astore_n 3, 1) := by decide +kernel
theorem d_L_law_30 : decode b_L_law 30 = .ok (.iconst 1, 1) := by decide +kernel
theorem d_L_law_31 : decode b_L_law 31 = .ok (.istore 4, 2) := by decide +kernel
theorem d_L_law_33 : decode b_L_law 33 = .ok (.iload 4, 2) := by decide +kernel
theorem d_L_law_35 : decode b_L_law 35 = .ok (.aload_n 0, 1) := by decide +kernel
theorem d_L_law_36 : decode b_L_law 36 = .ok (.arraylength, 1) := by decide +kernel
theorem d_L_law_37 : decode b_L_law 37 = .ok (.iconst 4, 1) := by decide +kernel
theorem d_L_law_38 : decode b_L_law 38 = .ok (.isub, 1) := by decide +kernel
theorem d_L_law_39 : decode b_L_law 39 = .ok (.if_icmp .gt 778, 3) := by decide +kernel
theorem d_L_law_42 : decode b_L_law 42 = .ok (.aload_n 0, 1) := by decide +kernel
theorem d_L_law_43 : decode b_L_law 43 = .ok (.iload 4, 2) := by decide +kernel
theorem d_L_law_45 : decode b_L_law 45 = .ok (.iaload, 1) := by decide +kernel
theorem d_L_law_46 : decode b_L_law 46 = .ok (.bipush 31, 2) := by decide +kernel
theorem d_L_law_48 : decode b_L_law 48 = .ok (.iand, 1) := by decide +kernel
theorem d_L_law_49 : decode b_L_law 49 = .ok (.tableswitch 762 0 16 #[83, 108, 133, 182, 219, 256, 293, 330, 355, 392, 429, 478, 527, 552, 589, 626, 694], 83) := by decide +kernel
theorem d_L_law_132 : decode b_L_law 132 = .ok (.aload_n 1, 1) := by decide +kernel
theorem d_L_law_133 : decode b_L_law 133 = .ok (.aload_n 0, 1) := by decide +kernel
theorem d_L_law_134 : decode b_L_law 134 = .ok (.iload 4, 2) := by decide +kernel
theorem d_L_law_136 : decode b_L_law 136 = .ok (.iconst 1, 1) := by decide +kernel
theorem d_L_law_137 : decode b_L_law 137 = .ok (.iadd, 1) := by decide +kernel
theorem d_L_law_138 : decode b_L_law 138 = .ok (.iaload, 1) := by decide +kernel
theorem d_L_law_139 : decode b_L_law 139 = .ok (.invokevirtual 30, 3) := by decide +kernel
theorem d_L_law_142 : decode b_L_law 142 = .ok (.aload_n 2, 1) := by decide +kernel
theorem d_L_law_143 : decode b_L_law 143 = .ok (.aload_n 0, 1) := by decide +kernel
theorem d_L_law_144 : decode b_L_law 144 = .ok (.iload 4, 2) := by decide +kernel
theorem d_L_law_146 : decode b_L_law 146 = .ok (.iconst 1, 1) := by decide +kernel
theorem d_L_law_147 : decode b_L_law 147 = .ok (.iadd, 1) := by decide +kernel
theorem d_L_law_148 : decode b_L_law 148 = .ok (.iaload, 1) := by decide +kernel
theorem d_L_law_149 : decode b_L_law 149 = .ok (.invokevirtual 34, 3) := by decide +kernel
theorem d_L_law_152 : decode b_L_law 152 = .ok (.if_icmp .eq 659, 3) := by decide +kernel
theorem d_L_law_155 : decode b_L_law 155 = .ok (.iconst 0, 1) := by decide +kernel
theorem d_L_law_156 : decode b_L_law 156 = .ok (.ireturn, 1) := by decide +kernel
theorem d_L_law_157 : decode b_L_law 157 = .ok (.aload_n 1, 1) := by decide +kernel
theorem d_L_law_158 : decode b_L_law 158 = .ok (.aload_n 0, 1) := by decide +kernel
theorem d_L_law_159 : decode b_L_law 159 = .ok (.iload 4, 2) := by decide +kernel
theorem d_L_law_161 : decode b_L_law 161 = .ok (.iconst 1, 1) := by decide +kernel
theorem d_L_law_162 : decode b_L_law 162 = .ok (.iadd, 1) := by decide +kernel
theorem d_L_law_163 : decode b_L_law 163 = .ok (.iaload, 1) := by decide +kernel
theorem d_L_law_164 : decode b_L_law 164 = .ok (.invokevirtual 35, 3) := by decide +kernel
theorem d_L_law_167 : decode b_L_law 167 = .ok (.aload_n 2, 1) := by decide +kernel
theorem d_L_law_168 : decode b_L_law 168 = .ok (.aload_n 0, 1) := by decide +kernel
theorem d_L_law_169 : decode b_L_law 169 = .ok (.iload 4, 2) := by decide +kernel
theorem d_L_law_171 : decode b_L_law 171 = .ok (.iconst 1, 1) := by decide +kernel
theorem d_L_law_172 : decode b_L_law 172 = .ok (.iadd, 1) := by decide +kernel
theorem d_L_law_173 : decode b_L_law 173 = .ok (.iaload, 1) := by decide +kernel
theorem d_L_law_174 : decode b_L_law 174 = .ok (.invokevirtual 38, 3) := by decide +kernel
theorem d_L_law_177 : decode b_L_law 177 = .ok (.if_icmp .eq 634, 3) := by decide +kernel
theorem d_L_law_180 : decode b_L_law 180 = .ok (.iconst 0, 1) := by decide +kernel
theorem d_L_law_181 : decode b_L_law 181 = .ok (.ireturn, 1) := by decide +kernel
theorem d_L_law_182 : decode b_L_law 182 = .ok (.aload_n 1, 1) := by decide +kernel
theorem d_L_law_183 : decode b_L_law 183 = .ok (.aload_n 0, 1) := by decide +kernel
theorem d_L_law_184 : decode b_L_law 184 = .ok (.iload 4, 2) := by decide +kernel
theorem d_L_law_186 : decode b_L_law 186 = .ok (.iconst 1, 1) := by decide +kernel
theorem d_L_law_187 : decode b_L_law 187 = .ok (.iadd, 1) := by decide +kernel
theorem d_L_law_188 : decode b_L_law 188 = .ok (.iaload, 1) := by decide +kernel
theorem d_L_law_189 : decode b_L_law 189 = .ok (.aload_n 0, 1) := by decide +kernel
theorem d_L_law_190 : decode b_L_law 190 = .ok (.iload 4, 2) := by decide +kernel
theorem d_L_law_192 : decode b_L_law 192 = .ok (.iconst 2, 1) := by decide +kernel
theorem d_L_law_193 : decode b_L_law 193 = .ok (.iadd, 1) := by decide +kernel
theorem d_L_law_194 : decode b_L_law 194 = .ok (.iaload, 1) := by decide +kernel
theorem d_L_law_195 : decode b_L_law 195 = .ok (.aload_n 0, 1) := by decide +kernel
theorem d_L_law_196 : decode b_L_law 196 = .ok (.iload 4, 2) := by decide +kernel
theorem d_L_law_198 : decode b_L_law 198 = .ok (.iconst 3, 1) := by decide +kernel
theorem d_L_law_199 : decode b_L_law 199 = .ok (.iadd, 1) := by decide +kernel
theorem d_L_law_200 : decode b_L_law 200 = .ok (.iaload, 1) := by decide +kernel
theorem d_L_law_201 : decode b_L_law 201 = .ok (.invokevirtual 39, 3) := by decide +kernel
theorem d_L_law_204 : decode b_L_law 204 = .ok (.aload_n 2, 1) := by decide +kernel
theorem d_L_law_205 : decode b_L_law 205 = .ok (.aload_n 0, 1) := by decide +kernel
theorem d_L_law_206 : decode b_L_law 206 = .ok (.iload 4, 2) := by decide +kernel
theorem d_L_law_208 : decode b_L_law 208 = .ok (.iconst 1, 1) := by decide +kernel
theorem d_L_law_209 : decode b_L_law 209 = .ok (.iadd, 1) := by decide +kernel
theorem d_L_law_210 : decode b_L_law 210 = .ok (.iaload, 1) := by decide +kernel
theorem d_L_law_211 : decode b_L_law 211 = .ok (.aload_n 0, 1) := by decide +kernel
theorem d_L_law_212 : decode b_L_law 212 = .ok (.iload 4, 2) := by decide +kernel
theorem d_L_law_214 : decode b_L_law 214 = .ok (.iconst 2, 1) := by decide +kernel
theorem d_L_law_215 : decode b_L_law 215 = .ok (.iadd, 1) := by decide +kernel
theorem d_L_law_216 : decode b_L_law 216 = .ok (.iaload, 1) := by decide +kernel
theorem d_L_law_217 : decode b_L_law 217 = .ok (.aload_n 0, 1) := by decide +kernel
theorem d_L_law_218 : decode b_L_law 218 = .ok (.iload 4, 2) := by decide +kernel
theorem d_L_law_220 : decode b_L_law 220 = .ok (.iconst 3, 1) := by decide +kernel
theorem d_L_law_221 : decode b_L_law 221 = .ok (.iadd, 1) := by decide +kernel
theorem d_L_law_222 : decode b_L_law 222 = .ok (.iaload, 1) := by decide +kernel
theorem d_L_law_223 : decode b_L_law 223 = .ok (.invokevirtual 43, 3) := by decide +kernel
theorem d_L_law_226 : decode b_L_law 226 = .ok (.if_icmp .eq 585, 3) := by decide +kernel
theorem d_L_law_229 : decode b_L_law 229 = .ok (.iconst 0, 1) := by decide +kernel
theorem d_L_law_230 : decode b_L_law 230 = .ok (.ireturn, 1) := by decide +kernel
theorem d_L_law_231 : decode b_L_law 231 = .ok (.aload_n 1, 1) := by decide +kernel
theorem d_L_law_232 : decode b_L_law 232 = .ok (.aload_n 0, 1) := by decide +kernel
theorem d_L_law_233 : decode b_L_law 233 = .ok (.iload 4, 2) := by decide +kernel
theorem d_L_law_235 : decode b_L_law 235 = .ok (.iconst 1, 1) := by decide +kernel
theorem d_L_law_236 : decode b_L_law 236 = .ok (.iadd, 1) := by decide +kernel
theorem d_L_law_237 : decode b_L_law 237 = .ok (.iaload, 1) := by decide +kernel
theorem d_L_law_238 : decode b_L_law 238 = .ok (.aload_n 0, 1) := by decide +kernel
theorem d_L_law_239 : decode b_L_law 239 = .ok (.iload 4, 2) := by decide +kernel
theorem d_L_law_241 : decode b_L_law 241 = .ok (.iconst 2, 1) := by decide +kernel
theorem d_L_law_242 : decode b_L_law 242 = .ok (.iadd, 1) := by decide +kernel
theorem d_L_law_243 : decode b_L_law 243 = .ok (.iaload, 1) := by decide +kernel
theorem d_L_law_244 : decode b_L_law 244 = .ok (.invokevirtual 44, 3) := by decide +kernel
theorem d_L_law_247 : decode b_L_law 247 = .ok (.aload_n 2, 1) := by decide +kernel
theorem d_L_law_248 : decode b_L_law 248 = .ok (.aload_n 0, 1) := by decide +kernel
theorem d_L_law_249 : decode b_L_law 249 = .ok (.iload 4, 2) := by decide +kernel
theorem d_L_law_251 : decode b_L_law 251 = .ok (.iconst 1, 1) := by decide +kernel
theorem d_L_law_252 : decode b_L_law 252 = .ok (.iadd, 1) := by decide +kernel
theorem d_L_law_253 : decode b_L_law 253 = .ok (.iaload, 1) := by decide +kernel
theorem d_L_law_254 : decode b_L_law 254 = .ok (.aload_n 0, 1) := by decide +kernel
theorem d_L_law_255 : decode b_L_law 255 = .ok (.iload 4, 2) := by decide +kernel
theorem d_L_law_257 : decode b_L_law 257 = .ok (.iconst 2, 1) := by decide +kernel
theorem d_L_law_258 : decode b_L_law 258 = .ok (.iadd, 1) := by decide +kernel
theorem d_L_law_259 : decode b_L_law 259 = .ok (.iaload, 1) := by decide +kernel
theorem d_L_law_260 : decode b_L_law 260 = .ok (.invokevirtual 47, 3) := by decide +kernel
theorem d_L_law_263 : decode b_L_law 263 = .ok (.if_icmp .eq 548, 3) := by decide +kernel
theorem d_L_law_266 : decode b_L_law 266 = .ok (.iconst 0, 1) := by decide +kernel
theorem d_L_law_267 : decode b_L_law 267 = .ok (.ireturn, 1) := by decide +kernel
theorem d_L_law_268 : decode b_L_law 268 = .ok (.aload_n 1, 1) := by decide +kernel
theorem d_L_law_269 : decode b_L_law 269 = .ok (.aload_n 0, 1) := by decide +kernel
theorem d_L_law_270 : decode b_L_law 270 = .ok (.iload 4, 2) := by decide +kernel
theorem d_L_law_272 : decode b_L_law 272 = .ok (.iconst 1, 1) := by decide +kernel
theorem d_L_law_273 : decode b_L_law 273 = .ok (.iadd, 1) := by decide +kernel
theorem d_L_law_274 : decode b_L_law 274 = .ok (.iaload, 1) := by decide +kernel
theorem d_L_law_275 : decode b_L_law 275 = .ok (.aload_n 0, 1) := by decide +kernel
theorem d_L_law_276 : decode b_L_law 276 = .ok (.iload 4, 2) := by decide +kernel
theorem d_L_law_278 : decode b_L_law 278 = .ok (.iconst 2, 1) := by decide +kernel
theorem d_L_law_279 : decode b_L_law 279 = .ok (.iadd, 1) := by decide +kernel
theorem d_L_law_280 : decode b_L_law 280 = .ok (.iaload, 1) := by decide +kernel
theorem d_L_law_281 : decode b_L_law 281 = .ok (.invokevirtual 48, 3) := by decide +kernel
theorem d_L_law_284 : decode b_L_law 284 = .ok (.aload_n 2, 1) := by decide +kernel
theorem d_L_law_285 : decode b_L_law 285 = .ok (.aload_n 0, 1) := by decide +kernel
theorem d_L_law_286 : decode b_L_law 286 = .ok (.iload 4, 2) := by decide +kernel
theorem d_L_law_288 : decode b_L_law 288 = .ok (.iconst 1, 1) := by decide +kernel
theorem d_L_law_289 : decode b_L_law 289 = .ok (.iadd, 1) := by decide +kernel
theorem d_L_law_290 : decode b_L_law 290 = .ok (.iaload, 1) := by decide +kernel
theorem d_L_law_291 : decode b_L_law 291 = .ok (.aload_n 0, 1) := by decide +kernel
theorem d_L_law_292 : decode b_L_law 292 = .ok (.iload 4, 2) := by decide +kernel
theorem d_L_law_294 : decode b_L_law 294 = .ok (.iconst 2, 1) := by decide +kernel
theorem d_L_law_295 : decode b_L_law 295 = .ok (.iadd, 1) := by decide +kernel
theorem d_L_law_296 : decode b_L_law 296 = .ok (.iaload, 1) := by decide +kernel
theorem d_L_law_297 : decode b_L_law 297 = .ok (.invokevirtual 51, 3) := by decide +kernel
theorem d_L_law_300 : decode b_L_law 300 = .ok (.if_icmp .eq 511, 3) := by decide +kernel
theorem d_L_law_303 : decode b_L_law 303 = .ok (.iconst 0, 1) := by decide +kernel
theorem d_L_law_304 : decode b_L_law 304 = .ok (.ireturn, 1) := by decide +kernel
theorem d_L_law_305 : decode b_L_law 305 = .ok (.aload_n 1, 1) := by decide +kernel
theorem d_L_law_306 : decode b_L_law 306 = .ok (.aload_n 0, 1) := by decide +kernel
theorem d_L_law_307 : decode b_L_law 307 = .ok (.iload 4, 2) := by decide +kernel
theorem d_L_law_309 : decode b_L_law 309 = .ok (.iconst 1, 1) := by decide +kernel
theorem d_L_law_310 : decode b_L_law 310 = .ok (.iadd, 1) := by decide +kernel
theorem d_L_law_311 : decode b_L_law 311 = .ok (.iaload, 1) := by decide +kernel
theorem d_L_law_312 : decode b_L_law 312 = .ok (.aload_n 0, 1) := by decide +kernel
theorem d_L_law_313 : decode b_L_law 313 = .ok (.iload 4, 2) := by decide +kernel
theorem d_L_law_315 : decode b_L_law 315 = .ok (.iconst 2, 1) := by decide +kernel
theorem d_L_law_316 : decode b_L_law 316 = .ok (.iadd, 1) := by decide +kernel
theorem d_L_law_317 : decode b_L_law 317 = .ok (.iaload, 1) := by decide +kernel
theorem d_L_law_318 : decode b_L_law 318 = .ok (.invokevirtual 52, 3) := by decide +kernel
theorem d_L_law_321 : decode b_L_law 321 = .ok (.aload_n 2, 1) := by decide +kernel
theorem d_L_law_322 : decode b_L_law 322 = .ok (.aload_n 0, 1) := by decide +kernel
theorem d_L_law_323 : decode b_L_law 323 = .ok (.iload 4, 2) := by decide +kernel
theorem d_L_law_325 : decode b_L_law 325 = .ok (.iconst 1, 1) := by decide +kernel
theorem d_L_law_326 : decode b_L_law 326 = .ok (.iadd, 1) := by decide +kernel
theorem d_L_law_327 : decode b_L_law 327 = .ok (.iaload, 1) := by decide +kernel
theorem d_L_law_328 : decode b_L_law 328 = .ok (.aload_n 0, 1) := by decide +kernel
theorem d_L_law_329 : decode b_L_law 329 = .ok (.iload 4, 2) := by decide +kernel
theorem d_L_law_331 : decode b_L_law 331 = .ok (.iconst 2, 1) := by decide +kernel
theorem d_L_law_332 : decode b_L_law 332 = .ok (.iadd, 1) := by decide +kernel
theorem d_L_law_333 : decode b_L_law 333 = .ok (.iaload, 1) := by decide +kernel
theorem d_L_law_334 : decode b_L_law 334 = .ok (.invokevirtual 55, 3) := by decide +kernel
theorem d_L_law_337 : decode b_L_law 337 = .ok (.if_icmp .eq 474, 3) := by decide +kernel
theorem d_L_law_340 : decode b_L_law 340 = .ok (.iconst 0, 1) := by decide +kernel
theorem d_L_law_341 : decode b_L_law 341 = .ok (.ireturn, 1) := by decide +kernel
theorem d_L_law_342 : decode b_L_law 342 = .ok (.aload_n 1, 1) := by decide +kernel
theorem d_L_law_343 : decode b_L_law 343 = .ok (.aload_n 0, 1) := by decide +kernel
theorem d_L_law_344 : decode b_L_law 344 = .ok (.iload 4, 2) := by decide +kernel
theorem d_L_law_346 : decode b_L_law 346 = .ok (.iconst 1, 1) := by decide +kernel
theorem d_L_law_347 : decode b_L_law 347 = .ok (.iadd, 1) := by decide +kernel
theorem d_L_law_348 : decode b_L_law 348 = .ok (.iaload, 1) := by decide +kernel
theorem d_L_law_349 : decode b_L_law 349 = .ok (.aload_n 0, 1) := by decide +kernel
theorem d_L_law_350 : decode b_L_law 350 = .ok (.iload 4, 2) := by decide +kernel
theorem d_L_law_352 : decode b_L_law 352 = .ok (.iconst 2, 1) := by decide +kernel
theorem d_L_law_353 : decode b_L_law 353 = .ok (.iadd, 1) := by decide +kernel
theorem d_L_law_354 : decode b_L_law 354 = .ok (.iaload, 1) := by decide +kernel
theorem d_L_law_355 : decode b_L_law 355 = .ok (.invokevirtual 56, 3) := by decide +kernel
theorem d_L_law_358 : decode b_L_law 358 = .ok (.aload_n 2, 1) := by decide +kernel
theorem d_L_law_359 : decode b_L_law 359 = .ok (.aload_n 0, 1) := by decide +kernel
theorem d_L_law_360 : decode b_L_law 360 = .ok (.iload 4, 2) := by decide +kernel
theorem d_L_law_362 : decode b_L_law 362 = .ok (.iconst 1, 1) := by decide +kernel
theorem d_L_law_363 : decode b_L_law 363 = .ok (.iadd, 1) := by decide +kernel
theorem d_L_law_364 : decode b_L_law 364 = .ok (.iaload, 1) := by decide +kernel
theorem d_L_law_365 : decode b_L_law 365 = .ok (.aload_n 0, 1) := by decide +kernel
theorem d_L_law_366 : decode b_L_law 366 = .ok (.iload 4, 2) := by decide +kernel
theorem d_L_law_368 : decode b_L_law 368 = .ok (.iconst 2, 1) := by decide +kernel
theorem d_L_law_369 : decode b_L_law 369 = .ok (.iadd, 1) := by decide +kernel
theorem d_L_law_370 : decode b_L_law 370 = .ok (.iaload, 1) := by decide +kernel
theorem d_L_law_371 : decode b_L_law 371 = .ok (.invokevirtual 59, 3) := by decide +kernel
theorem d_L_law_374 : decode b_L_law 374 = .ok (.if_icmp .eq 437, 3) := by decide +kernel
theorem d_L_law_377 : decode b_L_law 377 = .ok (.iconst 0, 1) := by decide +kernel
theorem d_L_law_378 : decode b_L_law 378 = .ok (.ireturn, 1) := by decide +kernel
theorem d_L_law_379 : decode b_L_law 379 = .ok (.aload_n 1, 1) := by decide +kernel
theorem d_L_law_380 : decode b_L_law 380 = .ok (.aload_n 0, 1) := by decide +kernel
theorem d_L_law_381 : decode b_L_law 381 = .ok (.iload 4, 2) := by decide +kernel
theorem d_L_law_383 : decode b_L_law 383 = .ok (.iconst 1, 1) := by decide +kernel
theorem d_L_law_384 : decode b_L_law 384 = .ok (.iadd, 1) := by decide +kernel
theorem d_L_law_385 : decode b_L_law 385 = .ok (.iaload, 1) := by decide +kernel
theorem d_L_law_386 : decode b_L_law 386 = .ok (.invokevirtual 60, 3) := by decide +kernel
theorem d_L_law_389 : decode b_L_law 389 = .ok (.aload_n 2, 1) := by decide +kernel
theorem d_L_law_390 : decode b_L_law 390 = .ok (.aload_n 0, 1) := by decide +kernel
theorem d_L_law_391 : decode b_L_law 391 = .ok (.iload 4, 2) := by decide +kernel
theorem d_L_law_393 : decode b_L_law 393 = .ok (.iconst 1, 1) := by decide +kernel
theorem d_L_law_394 : decode b_L_law 394 = .ok (.iadd, 1) := by decide +kernel
theorem d_L_law_395 : decode b_L_law 395 = .ok (.iaload, 1) := by decide +kernel
theorem d_L_law_396 : decode b_L_law 396 = .ok (.invokevirtual 63, 3) := by decide +kernel
theorem d_L_law_399 : decode b_L_law 399 = .ok (.if_icmp .eq 412, 3) := by decide +kernel
theorem d_L_law_402 : decode b_L_law 402 = .ok (.iconst 0, 1) := by decide +kernel
theorem d_L_law_403 : decode b_L_law 403 = .ok (.ireturn, 1) := by decide +kernel
theorem d_L_law_404 : decode b_L_law 404 = .ok (.aload_n 1, 1) := by decide +kernel
theorem d_L_law_405 : decode b_L_law 405 = .ok (.aload_n 0, 1) := by decide +kernel
theorem d_L_law_406 : decode b_L_law 406 = .ok (.iload 4, 2) := by decide +kernel
theorem d_L_law_408 : decode b_L_law 408 = .ok (.iconst 1, 1) := by decide +kernel
theorem d_L_law_409 : decode b_L_law 409 = .ok (.iadd, 1) := by decide +kernel
theorem d_L_law_410 : decode b_L_law 410 = .ok (.iaload, 1) := by decide +kernel
theorem d_L_law_411 : decode b_L_law 411 = .ok (.aload_n 0, 1) := by decide +kernel
theorem d_L_law_412 : decode b_L_law 412 = .ok (.iload 4, 2) := by decide +kernel
theorem d_L_law_414 : decode b_L_law 414 = .ok (.iconst 2, 1) := by decide +kernel
theorem d_L_law_415 : decode b_L_law 415 = .ok (.iadd, 1) := by decide +kernel
theorem d_L_law_416 : decode b_L_law 416 = .ok (.iaload, 1) := by decide +kernel
theorem d_L_law_417 : decode b_L_law 417 = .ok (.invokevirtual 64, 3) := by decide +kernel
theorem d_L_law_420 : decode b_L_law 420 = .ok (.aload_n 2, 1) := by decide +kernel
theorem d_L_law_421 : decode b_L_law 421 = .ok (.aload_n 0, 1) := by decide +kernel
theorem d_L_law_422 : decode b_L_law 422 = .ok (.iload 4, 2) := by decide +kernel
theorem d_L_law_424 : decode b_L_law 424 = .ok (.iconst 1, 1) := by decide +kernel
theorem d_L_law_425 : decode b_L_law 425 = .ok (.iadd, 1) := by decide +kernel
theorem d_L_law_426 : decode b_L_law 426 = .ok (.iaload, 1) := by decide +kernel
theorem d_L_law_427 : decode b_L_law 427 = .ok (.aload_n 0, 1) := by decide +kernel
theorem d_L_law_428 : decode b_L_law 428 = .ok (.iload 4, 2) := by decide +kernel
theorem d_L_law_430 : decode b_L_law 430 = .ok (.iconst 2, 1) := by decide +kernel
theorem d_L_law_431 : decode b_L_law 431 = .ok (.iadd, 1) := by decide +kernel
theorem d_L_law_432 : decode b_L_law 432 = .ok (.iaload, 1) := by decide +kernel
theorem d_L_law_433 : decode b_L_law 433 = .ok (.invokevirtual 67, 3) := by decide +kernel
theorem d_L_law_436 : decode b_L_law 436 = .ok (.if_icmp .eq 375, 3) := by decide +kernel
theorem d_L_law_439 : decode b_L_law 439 = .ok (.iconst 0, 1) := by decide +kernel
theorem d_L_law_440 : decode b_L_law 440 = .ok (.ireturn, 1) := by decide +kernel
theorem d_L_law_441 : decode b_L_law 441 = .ok (.aload_n 1, 1) := by decide +kernel
theorem d_L_law_442 : decode b_L_law 442 = .ok (.aload_n 0, 1) := by decide +kernel
theorem d_L_law_443 : decode b_L_law 443 = .ok (.iload 4, 2) := by decide +kernel
theorem d_L_law_445 : decode b_L_law 445 = .ok (.iconst 1, 1) := by decide +kernel
theorem d_L_law_446 : decode b_L_law 446 = .ok (.iadd, 1) := by decide +kernel
theorem d_L_law_447 : decode b_L_law 447 = .ok (.iaload, 1) := by decide +kernel
theorem d_L_law_448 : decode b_L_law 448 = .ok (.aload_n 0, 1) := by decide +kernel
theorem d_L_law_449 : decode b_L_law 449 = .ok (.iload 4, 2) := by decide +kernel
theorem d_L_law_451 : decode b_L_law 451 = .ok (.iconst 2, 1) := by decide +kernel
theorem d_L_law_452 : decode b_L_law 452 = .ok (.iadd, 1) := by decide +kernel
theorem d_L_law_453 : decode b_L_law 453 = .ok (.iaload, 1) := by decide +kernel
theorem d_L_law_454 : decode b_L_law 454 = .ok (.invokevirtual 68, 3) := by decide +kernel
theorem d_L_law_457 : decode b_L_law 457 = .ok (.aload_n 2, 1) := by decide +kernel
theorem d_L_law_458 : decode b_L_law 458 = .ok (.aload_n 0, 1) := by decide +kernel
theorem d_L_law_459 : decode b_L_law 459 = .ok (.iload 4, 2) := by decide +kernel
theorem d_L_law_461 : decode b_L_law 461 = .ok (.iconst 1, 1) := by decide +kernel
theorem d_L_law_462 : decode b_L_law 462 = .ok (.iadd, 1) := by decide +kernel
theorem d_L_law_463 : decode b_L_law 463 = .ok (.iaload, 1) := by decide +kernel
theorem d_L_law_464 : decode b_L_law 464 = .ok (.aload_n 0, 1) := by decide +kernel
theorem d_L_law_465 : decode b_L_law 465 = .ok (.iload 4, 2) := by decide +kernel
theorem d_L_law_467 : decode b_L_law 467 = .ok (.iconst 2, 1) := by decide +kernel
theorem d_L_law_468 : decode b_L_law 468 = .ok (.iadd, 1) := by decide +kernel
theorem d_L_law_469 : decode b_L_law 469 = .ok (.iaload, 1) := by decide +kernel
theorem d_L_law_470 : decode b_L_law 470 = .ok (.invokevirtual 71, 3) := by decide +kernel
theorem d_L_law_473 : decode b_L_law 473 = .ok (.if_icmp .eq 338, 3) := by decide +kernel
theorem d_L_law_476 : decode b_L_law 476 = .ok (.iconst 0, 1) := by decide +kernel
theorem d_L_law_477 : decode b_L_law 477 = .ok (.ireturn, 1) := by decide +kernel
theorem d_L_law_478 : decode b_L_law 478 = .ok (.aload_n 1, 1) := by decide +kernel
theorem d_L_law_479 : decode b_L_law 479 = .ok (.aload_n 0, 1) := by decide +kernel
theorem d_L_law_480 : decode b_L_law 480 = .ok (.iload 4, 2) := by decide +kernel
theorem d_L_law_482 : decode b_L_law 482 = .ok (.iconst 1, 1) := by decide +kernel
theorem d_L_law_483 : decode b_L_law 483 = .ok (.iadd, 1) := by decide +kernel
theorem d_L_law_484 : decode b_L_law 484 = .ok (.iaload, 1) := by decide +kernel
theorem d_L_law_485 : decode b_L_law 485 = .ok (.aload_n 0, 1) := by decide +kernel
theorem d_L_law_486 : decode b_L_law 486 = .ok (.iload 4, 2) := by decide +kernel
theorem d_L_law_488 : decode b_L_law 488 = .ok (.iconst 2, 1) := by decide +kernel
theorem d_L_law_489 : decode b_L_law 489 = .ok (.iadd, 1) := by decide +kernel
theorem d_L_law_490 : decode b_L_law 490 = .ok (.iaload, 1) := by decide +kernel
theorem d_L_law_491 : decode b_L_law 491 = .ok (.aload_n 0, 1) := by decide +kernel
theorem d_L_law_492 : decode b_L_law 492 = .ok (.iload 4, 2) := by decide +kernel
theorem d_L_law_494 : decode b_L_law 494 = .ok (.iconst 3, 1) := by decide +kernel
theorem d_L_law_495 : decode b_L_law 495 = .ok (.iadd, 1) := by decide +kernel
theorem d_L_law_496 : decode b_L_law 496 = .ok (.iaload, 1) := by decide +kernel
theorem d_L_law_497 : decode b_L_law 497 = .ok (.invokevirtual 72, 3) := by decide +kernel
theorem d_L_law_500 : decode b_L_law 500 = .ok (.aload_n 2, 1) := by decide +kernel
theorem d_L_law_501 : decode b_L_law 501 = .ok (.aload_n 0, 1) := by decide +kernel
theorem d_L_law_502 : decode b_L_law 502 = .ok (.iload 4, 2) := by decide +kernel
theorem d_L_law_504 : decode b_L_law 504 = .ok (.iconst 1, 1) := by decide +kernel
theorem d_L_law_505 : decode b_L_law 505 = .ok (.iadd, 1) := by decide +kernel
theorem d_L_law_506 : decode b_L_law 506 = .ok (.iaload, 1) := by decide +kernel
theorem d_L_law_507 : decode b_L_law 507 = .ok (.aload_n 0, 1) := by decide +kernel
theorem d_L_law_508 : decode b_L_law 508 = .ok (.iload 4, 2) := by decide +kernel
theorem d_L_law_510 : decode b_L_law 510 = .ok (.iconst 2, 1) := by decide +kernel
theorem d_L_law_511 : decode b_L_law 511 = .ok (.iadd, 1) := by decide +kernel
theorem d_L_law_512 : decode b_L_law 512 = .ok (.iaload, 1) := by decide +kernel
theorem d_L_law_513 : decode b_L_law 513 = .ok (.aload_n 0, 1) := by decide +kernel
theorem d_L_law_514 : decode b_L_law 514 = .ok (.iload 4, 2) := by decide +kernel
theorem d_L_law_516 : decode b_L_law 516 = .ok (.iconst 3, 1) := by decide +kernel
theorem d_L_law_517 : decode b_L_law 517 = .ok (.iadd, 1) := by decide +kernel
theorem d_L_law_518 : decode b_L_law 518 = .ok (.iaload, 1) := by decide +kernel
theorem d_L_law_519 : decode b_L_law 519 = .ok (.invokevirtual 75, 3) := by decide +kernel
theorem d_L_law_522 : decode b_L_law 522 = .ok (.if_icmp .eq 289, 3) := by decide +kernel
theorem d_L_law_525 : decode b_L_law 525 = .ok (.iconst 0, 1) := by decide +kernel
theorem d_L_law_526 : decode b_L_law 526 = .ok (.ireturn, 1) := by decide +kernel
theorem d_L_law_527 : decode b_L_law 527 = .ok (.aload_n 1, 1) := by decide +kernel
theorem d_L_law_528 : decode b_L_law 528 = .ok (.aload_n 0, 1) := by decide +kernel
theorem d_L_law_529 : decode b_L_law 529 = .ok (.iload 4, 2) := by decide +kernel
theorem d_L_law_531 : decode b_L_law 531 = .ok (.iconst 1, 1) := by decide +kernel
theorem d_L_law_532 : decode b_L_law 532 = .ok (.iadd, 1) := by decide +kernel
theorem d_L_law_533 : decode b_L_law 533 = .ok (.iaload, 1) := by decide +kernel
theorem d_L_law_534 : decode b_L_law 534 = .ok (.aload_n 0, 1) := by decide +kernel
theorem d_L_law_535 : decode b_L_law 535 = .ok (.iload 4, 2) := by decide +kernel
theorem d_L_law_537 : decode b_L_law 537 = .ok (.iconst 2, 1) := by decide +kernel
theorem d_L_law_538 : decode b_L_law 538 = .ok (.iadd, 1) := by decide +kernel
theorem d_L_law_539 : decode b_L_law 539 = .ok (.iaload, 1) := by decide +kernel
theorem d_L_law_540 : decode b_L_law 540 = .ok (.aload_n 0, 1) := by decide +kernel
theorem d_L_law_541 : decode b_L_law 541 = .ok (.iload 4, 2) := by decide +kernel
theorem d_L_law_543 : decode b_L_law 543 = .ok (.iconst 3, 1) := by decide +kernel
theorem d_L_law_544 : decode b_L_law 544 = .ok (.iadd, 1) := by decide +kernel
theorem d_L_law_545 : decode b_L_law 545 = .ok (.iaload, 1) := by decide +kernel
theorem d_L_law_546 : decode b_L_law 546 = .ok (.invokevirtual 76, 3) := by decide +kernel
theorem d_L_law_549 : decode b_L_law 549 = .ok (.aload_n 2, 1) := by decide +kernel
theorem d_L_law_550 : decode b_L_law 550 = .ok (.aload_n 0, 1) := by decide +kernel
theorem d_L_law_551 : decode b_L_law 551 = .ok (.iload 4, 2) := by decide +kernel
theorem d_L_law_553 : decode b_L_law 553 = .ok (.iconst 1, 1) := by decide +kernel
theorem d_L_law_554 : decode b_L_law 554 = .ok (.iadd, 1) := by decide +kernel
theorem d_L_law_555 : decode b_L_law 555 = .ok (.iaload, 1) := by decide +kernel
theorem d_L_law_556 : decode b_L_law 556 = .ok (.aload_n 0, 1) := by decide +kernel
theorem d_L_law_557 : decode b_L_law 557 = .ok (.iload 4, 2) := by decide +kernel
theorem d_L_law_559 : decode b_L_law 559 = .ok (.iconst 2, 1) := by decide +kernel
theorem d_L_law_560 : decode b_L_law 560 = .ok (.iadd, 1) := by decide +kernel
theorem d_L_law_561 : decode b_L_law 561 = .ok (.iaload, 1) := by decide +kernel
theorem d_L_law_562 : decode b_L_law 562 = .ok (.aload_n 0, 1) := by decide +kernel
theorem d_L_law_563 : decode b_L_law 563 = .ok (.iload 4, 2) := by decide +kernel
theorem d_L_law_565 : decode b_L_law 565 = .ok (.iconst 3, 1) := by decide +kernel
theorem d_L_law_566 : decode b_L_law 566 = .ok (.iadd, 1) := by decide +kernel
theorem d_L_law_567 : decode b_L_law 567 = .ok (.iaload, 1) := by decide +kernel
theorem d_L_law_568 : decode b_L_law 568 = .ok (.invokevirtual 79, 3) := by decide +kernel
theorem d_L_law_571 : decode b_L_law 571 = .ok (.if_icmp .eq 240, 3) := by decide +kernel
theorem d_L_law_574 : decode b_L_law 574 = .ok (.iconst 0, 1) := by decide +kernel
theorem d_L_law_575 : decode b_L_law 575 = .ok (.ireturn, 1) := by decide +kernel
theorem d_L_law_576 : decode b_L_law 576 = .ok (.aload_n 1, 1) := by decide +kernel
theorem d_L_law_577 : decode b_L_law 577 = .ok (.aload_n 0, 1) := by decide +kernel
theorem d_L_law_578 : decode b_L_law 578 = .ok (.iload 4, 2) := by decide +kernel
theorem d_L_law_580 : decode b_L_law 580 = .ok (.iconst 1, 1) := by decide +kernel
theorem d_L_law_581 : decode b_L_law 581 = .ok (.iadd, 1) := by decide +kernel
theorem d_L_law_582 : decode b_L_law 582 = .ok (.iaload, 1) := by decide +kernel
theorem d_L_law_583 : decode b_L_law 583 = .ok (.invokevirtual 80, 3) := by decide +kernel
theorem d_L_law_586 : decode b_L_law 586 = .ok (.aload_n 2, 1) := by decide +kernel
theorem d_L_law_587 : decode b_L_law 587 = .ok (.aload_n 0, 1) := by decide +kernel
theorem d_L_law_588 : decode b_L_law 588 = .ok (.iload 4, 2) := by decide +kernel
theorem d_L_law_590 : decode b_L_law 590 = .ok (.iconst 1, 1) := by decide +kernel
theorem d_L_law_591 : decode b_L_law 591 = .ok (.iadd, 1) := by decide +kernel
theorem d_L_law_592 : decode b_L_law 592 = .ok (.iaload, 1) := by decide +kernel
theorem d_L_law_593 : decode b_L_law 593 = .ok (.invokevirtual 83, 3) := by decide +kernel
theorem d_L_law_596 : decode b_L_law 596 = .ok (.if_icmp .eq 215, 3) := by decide +kernel
theorem d_L_law_599 : decode b_L_law 599 = .ok (.iconst 0, 1) := by decide +kernel
theorem d_L_law_600 : decode b_L_law 600 = .ok (.ireturn, 1) := by decide +kernel
theorem d_L_law_601 : decode b_L_law 601 = .ok (.aload_n 1, 1) := by decide +kernel
theorem d_L_law_602 : decode b_L_law 602 = .ok (.aload_n 0, 1) := by decide +kernel
theorem d_L_law_603 : decode b_L_law 603 = .ok (.iload 4, 2) := by decide +kernel
theorem d_L_law_605 : decode b_L_law 605 = .ok (.iconst 1, 1) := by decide +kernel
theorem d_L_law_606 : decode b_L_law 606 = .ok (.iadd, 1) := by decide +kernel
theorem d_L_law_607 : decode b_L_law 607 = .ok (.iaload, 1) := by decide +kernel
theorem d_L_law_608 : decode b_L_law 608 = .ok (.aload_n 0, 1) := by decide +kernel
theorem d_L_law_609 : decode b_L_law 609 = .ok (.iload 4, 2) := by decide +kernel
theorem d_L_law_611 : decode b_L_law 611 = .ok (.iconst 2, 1) := by decide +kernel
theorem d_L_law_612 : decode b_L_law 612 = .ok (.iadd, 1) := by decide +kernel
theorem d_L_law_613 : decode b_L_law 613 = .ok (.iaload, 1) := by decide +kernel
theorem d_L_law_614 : decode b_L_law 614 = .ok (.invokevirtual 84, 3) := by decide +kernel
theorem d_L_law_617 : decode b_L_law 617 = .ok (.aload_n 2, 1) := by decide +kernel
theorem d_L_law_618 : decode b_L_law 618 = .ok (.aload_n 0, 1) := by decide +kernel
theorem d_L_law_619 : decode b_L_law 619 = .ok (.iload 4, 2) := by decide +kernel
theorem d_L_law_621 : decode b_L_law 621 = .ok (.iconst 1, 1) := by decide +kernel
theorem d_L_law_622 : decode b_L_law 622 = .ok (.iadd, 1) := by decide +kernel
theorem d_L_law_623 : decode b_L_law 623 = .ok (.iaload, 1) := by decide +kernel
theorem d_L_law_624 : decode b_L_law 624 = .ok (.aload_n 0, 1) := by decide +kernel
theorem d_L_law_625 : decode b_L_law 625 = .ok (.iload 4, 2) := by decide +kernel
theorem d_L_law_627 : decode b_L_law 627 = .ok (.iconst 2, 1) := by decide +kernel
theorem d_L_law_628 : decode b_L_law 628 = .ok (.iadd, 1) := by decide +kernel
theorem d_L_law_629 : decode b_L_law 629 = .ok (.iaload, 1) := by decide +kernel
theorem d_L_law_630 : decode b_L_law 630 = .ok (.invokevirtual 87, 3) := by decide +kernel
theorem d_L_law_633 : decode b_L_law 633 = .ok (.if_icmp .eq 178, 3) := by decide +kernel
theorem d_L_law_636 : decode b_L_law 636 = .ok (.iconst 0, 1) := by decide +kernel
theorem d_L_law_637 : decode b_L_law 637 = .ok (.ireturn, 1) := by decide +kernel
theorem d_L_law_638 : decode b_L_law 638 = .ok (.aload_n 1, 1) := by decide +kernel
theorem d_L_law_639 : decode b_L_law 639 = .ok (.aload_n 0, 1) := by decide +kernel
theorem d_L_law_640 : decode b_L_law 640 = .ok (.iload 4, 2) := by decide +kernel
theorem d_L_law_642 : decode b_L_law 642 = .ok (.iconst 1, 1) := by decide +kernel
theorem d_L_law_643 : decode b_L_law 643 = .ok (.iadd, 1) := by decide +kernel
theorem d_L_law_644 : decode b_L_law 644 = .ok (.iaload, 1) := by decide +kernel
theorem d_L_law_645 : decode b_L_law 645 = .ok (.aload_n 0, 1) := by decide +kernel
theorem d_L_law_646 : decode b_L_law 646 = .ok (.iload 4, 2) := by decide +kernel
theorem d_L_law_648 : decode b_L_law 648 = .ok (.iconst 2, 1) := by decide +kernel
theorem d_L_law_649 : decode b_L_law 649 = .ok (.iadd, 1) := by decide +kernel
theorem d_L_law_650 : decode b_L_law 650 = .ok (.iaload, 1) := by decide +kernel
theorem d_L_law_651 : decode b_L_law 651 = .ok (.invokevirtual 88, 3) := by decide +kernel
theorem d_L_law_654 : decode b_L_law 654 = .ok (.aload_n 2, 1) := by decide +kernel
theorem d_L_law_655 : decode b_L_law 655 = .ok (.aload_n 0, 1) := by decide +kernel
theorem d_L_law_656 : decode b_L_law 656 = .ok (.iload 4, 2) := by decide +kernel
theorem d_L_law_658 : decode b_L_law 658 = .ok (.iconst 1, 1) := by decide +kernel
theorem d_L_law_659 : decode b_L_law 659 = .ok (.iadd, 1) := by decide +kernel
theorem d_L_law_660 : decode b_L_law 660 = .ok (.iaload, 1) := by decide +kernel
theorem d_L_law_661 : decode b_L_law 661 = .ok (.aload_n 0, 1) := by decide +kernel
theorem d_L_law_662 : decode b_L_law 662 = .ok (.iload 4, 2) := by decide +kernel
theorem d_L_law_664 : decode b_L_law 664 = .ok (.iconst 2, 1) := by decide +kernel
theorem d_L_law_665 : decode b_L_law 665 = .ok (.iadd, 1) := by decide +kernel
theorem d_L_law_666 : decode b_L_law 666 = .ok (.iaload, 1) := by decide +kernel
theorem d_L_law_667 : decode b_L_law 667 = .ok (.invokevirtual 91, 3) := by decide +kernel
theorem d_L_law_670 : decode b_L_law 670 = .ok (.if_icmp .eq 141, 3) := by decide +kernel
theorem d_L_law_673 : decode b_L_law 673 = .ok (.iconst 0, 1) := by decide +kernel
theorem d_L_law_674 : decode b_L_law 674 = .ok (.ireturn, 1) := by decide +kernel
theorem d_L_law_675 : decode b_L_law 675 = .ok (.aload_n 1, 1) := by decide +kernel
theorem d_L_law_676 : decode b_L_law 676 = .ok (.aload_n 0, 1) := by decide +kernel
theorem d_L_law_677 : decode b_L_law 677 = .ok (.iload 4, 2) := by decide +kernel
theorem d_L_law_679 : decode b_L_law 679 = .ok (.iconst 1, 1) := by decide +kernel
theorem d_L_law_680 : decode b_L_law 680 = .ok (.iadd, 1) := by decide +kernel
theorem d_L_law_681 : decode b_L_law 681 = .ok (.iaload, 1) := by decide +kernel
theorem d_L_law_682 : decode b_L_law 682 = .ok (.aload_n 0, 1) := by decide +kernel
theorem d_L_law_683 : decode b_L_law 683 = .ok (.iload 4, 2) := by decide +kernel
theorem d_L_law_685 : decode b_L_law 685 = .ok (.iconst 2, 1) := by decide +kernel
theorem d_L_law_686 : decode b_L_law 686 = .ok (.iadd, 1) := by decide +kernel
theorem d_L_law_687 : decode b_L_law 687 = .ok (.iaload, 1) := by decide +kernel
theorem d_L_law_688 : decode b_L_law 688 = .ok (.aload_n 3, 1) := by decide +kernel
theorem d_L_law_689 : decode b_L_law 689 = .ok (.invokestatic 92, 3) := by decide +kernel
theorem d_L_law_692 : decode b_L_law 692 = .ok (.istore 5, 2) := by decide +kernel
theorem d_L_law_694 : decode b_L_law 694 = .ok (.aload_n 2, 1) := by decide +kernel
theorem d_L_law_695 : decode b_L_law 695 = .ok (.aload_n 0, 1) := by decide +kernel
theorem d_L_law_696 : decode b_L_law 696 = .ok (.iload 4, 2) := by decide +kernel
theorem d_L_law_698 : decode b_L_law 698 = .ok (.iconst 1, 1) := by decide +kernel
theorem d_L_law_699 : decode b_L_law 699 = .ok (.iadd, 1) := by decide +kernel
theorem d_L_law_700 : decode b_L_law 700 = .ok (.iaload, 1) := by decide +kernel
theorem d_L_law_701 : decode b_L_law 701 = .ok (.aload_n 0, 1) := by decide +kernel
theorem d_L_law_702 : decode b_L_law 702 = .ok (.iload 4, 2) := by decide +kernel
theorem d_L_law_704 : decode b_L_law 704 = .ok (.iconst 2, 1) := by decide +kernel
theorem d_L_law_705 : decode b_L_law 705 = .ok (.iadd, 1) := by decide +kernel
theorem d_L_law_706 : decode b_L_law 706 = .ok (.iaload, 1) := by decide +kernel
theorem d_L_law_707 : decode b_L_law 707 = .ok (.invokevirtual 95, 3) := by decide +kernel
theorem d_L_law_710 : decode b_L_law 710 = .ok (.istore 6, 2) := by decide +kernel
theorem d_L_law_712 : decode b_L_law 712 = .ok (.aload_n 2, 1) := by decide +kernel
theorem d_L_law_713 : decode b_L_law 713 = .ok (.invokevirtual 96, 3) := by decide +kernel
theorem d_L_law_716 : decode b_L_law 716 = .ok (.iload 5, 2) := by decide +kernel
theorem d_L_law_718 : decode b_L_law 718 = .ok (.if_icmp .eq 5, 3) := by decide +kernel
theorem d_L_law_721 : decode b_L_law 721 = .ok (.iconst 0, 1) := by decide +kernel
theorem d_L_law_722 : decode b_L_law 722 = .ok (.ireturn, 1) := by decide +kernel
theorem d_L_law_723 : decode b_L_law 723 = .ok (.iload 5, 2) := by decide +kernel
theorem d_L_law_725 : decode b_L_law 725 = .ok (.ifCond .ne 15, 3) := by decide +kernel
theorem d_L_law_728 : decode b_L_law 728 = .ok (.aload_n 3, 1) := by decide +kernel
theorem d_L_law_729 : decode b_L_law 729 = .ok (.iconst 0, 1) := by decide +kernel
theorem d_L_law_730 : decode b_L_law 730 = .ok (.laload, 1) := by decide +kernel
theorem d_L_law_731 : decode b_L_law 731 = .ok (.iload 6, 2) := by decide +kernel
theorem d_L_law_733 : decode b_L_law 733 = .ok (.i2l, 1) := by decide +kernel
theorem d_L_law_734 : decode b_L_law 734 = .ok (.lcmp, 1) := by decide +kernel
theorem d_L_law_735 : decode b_L_law 735 = .ok (.ifCond .eq 5, 3) := by decide +kernel
theorem d_L_law_738 : decode b_L_law 738 = .ok (.iconst 0, 1) := by decide +kernel
theorem d_L_law_739 : decode b_L_law 739 = .ok (.ireturn, 1) := by decide +kernel
theorem d_L_law_740 : decode b_L_law 740 = .ok (.goto 71, 3) := by decide +kernel
theorem d_L_law_743 : decode b_L_law 743 = .ok (.aload_n 1, 1) := by decide +kernel
theorem d_L_law_744 : decode b_L_law 744 = .ok (.aload_n 0, 1) := by decide +kernel
theorem d_L_law_745 : decode b_L_law 745 = .ok (.iload 4, 2) := by decide +kernel
theorem d_L_law_747 : decode b_L_law 747 = .ok (.iconst 1, 1) := by decide +kernel
theorem d_L_law_748 : decode b_L_law 748 = .ok (.iadd, 1) := by decide +kernel
theorem d_L_law_749 : decode b_L_law 749 = .ok (.iaload, 1) := by decide +kernel
theorem d_L_law_750 : decode b_L_law 750 = .ok (.aload_n 0, 1) := by decide +kernel
theorem d_L_law_751 : decode b_L_law 751 = .ok (.iload 4, 2) := by decide +kernel
theorem d_L_law_753 : decode b_L_law 753 = .ok (.iconst 2, 1) := by decide +kernel
theorem d_L_law_754 : decode b_L_law 754 = .ok (.iadd, 1) := by decide +kernel
theorem d_L_law_755 : decode b_L_law 755 = .ok (.iaload, 1) := by decide +kernel
theorem d_L_law_756 : decode b_L_law 756 = .ok (.aload_n 3, 1) := by decide +kernel
theorem d_L_law_757 : decode b_L_law 757 = .ok (.invokestatic 100, 3) := by decide +kernel
theorem d_L_law_760 : decode b_L_law 760 = .ok (.istore 5, 2) := by decide +kernel
theorem d_L_law_762 : decode b_L_law 762 = .ok (.aload_n 2, 1) := by decide +kernel
theorem d_L_law_763 : decode b_L_law 763 = .ok (.aload_n 0, 1) := by decide +kernel
theorem d_L_law_764 : decode b_L_law 764 = .ok (.iload 4, 2) := by decide +kernel
theorem d_L_law_766 : decode b_L_law 766 = .ok (.iconst 1, 1) := by decide +kernel
theorem d_L_law_767 : decode b_L_law 767 = .ok (.iadd, 1) := by decide +kernel
theorem d_L_law_768 : decode b_L_law 768 = .ok (.iaload, 1) := by decide +kernel
theorem d_L_law_769 : decode b_L_law 769 = .ok (.aload_n 0, 1) := by decide +kernel
theorem d_L_law_770 : decode b_L_law 770 = .ok (.iload 4, 2) := by decide +kernel
theorem d_L_law_772 : decode b_L_law 772 = .ok (.iconst 2, 1) := by decide +kernel
theorem d_L_law_773 : decode b_L_law 773 = .ok (.iadd, 1) := by decide +kernel
theorem d_L_law_774 : decode b_L_law 774 = .ok (.iaload, 1) := by decide +kernel
theorem d_L_law_775 : decode b_L_law 775 = .ok (.invokevirtual 102, 3) := by decide +kernel
theorem d_L_law_778 : decode b_L_law 778 = .ok (.istore 6, 2) := by decide +kernel
theorem d_L_law_780 : decode b_L_law 780 = .ok (.aload_n 2, 1) := by decide +kernel
theorem d_L_law_781 : decode b_L_law 781 = .ok (.invokevirtual 96, 3) := by decide +kernel
theorem d_L_law_784 : decode b_L_law 784 = .ok (.iload 5, 2) := by decide +kernel
theorem d_L_law_786 : decode b_L_law 786 = .ok (.if_icmp .eq 5, 3) := by decide +kernel
theorem d_L_law_789 : decode b_L_law 789 = .ok (.iconst 0, 1) := by decide +kernel
theorem d_L_law_790 : decode b_L_law 790 = .ok (.ireturn, 1) := by decide +kernel
theorem d_L_law_791 : decode b_L_law 791 = .ok (.iload 5, 2) := by decide +kernel
theorem d_L_law_793 : decode b_L_law 793 = .ok (.ifCond .ne 15, 3) := by decide +kernel
theorem d_L_law_796 : decode b_L_law 796 = .ok (.aload_n 3, 1) := by decide +kernel
theorem d_L_law_797 : decode b_L_law 797 = .ok (.iconst 0, 1) := by decide +kernel
theorem d_L_law_798 : decode b_L_law 798 = .ok (.laload, 1) := by decide +kernel
theorem d_L_law_799 : decode b_L_law 799 = .ok (.iload 6, 2) := by decide +kernel
theorem d_L_law_801 : decode b_L_law 801 = .ok (.i2l, 1) := by decide +kernel
theorem d_L_law_802 : decode b_L_law 802 = .ok (.lcmp, 1) := by decide +kernel
theorem d_L_law_803 : decode b_L_law 803 = .ok (.ifCond .eq 5, 3) := by decide +kernel
theorem d_L_law_806 : decode b_L_law 806 = .ok (.iconst 0, 1) := by decide +kernel
theorem d_L_law_807 : decode b_L_law 807 = .ok (.ireturn, 1) := by decide +kernel
theorem d_L_law_808 : decode b_L_law 808 = .ok (.goto 3, 3) := by decide +kernel
theorem d_L_law_811 : decode b_L_law 811 = .ok (.iinc 4 4, 3) := by decide +kernel
theorem d_L_law_814 : decode b_L_law 814 = .ok (.goto (-781), 3) := by decide +kernel
theorem d_L_law_817 : decode b_L_law 817 = .ok (.iconst 1, 1) := by decide +kernel
theorem d_L_law_818 : decode b_L_law 818 = .ok (.ireturn, 1) := by decide +kernel
