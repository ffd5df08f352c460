theorem dL_law_0 : decode cL_law 0 = .ok (.new 26, 3) := by decide +kernel
theorem dL_law_3 : decode cL_law 3 = .ok (.dup, 1) := by decide +kernel
theorem dL_law_4 : decode cL_law 4 = .ok (.invokespecial 74, 3) := by decide +kernel
theorem dL_law_7 : decode cL_law 7 = .ok (.astore_n 1, 1) := by decide +kernel
theorem dL_law_8 : decode cL_law 8 = .ok (.aload_n 1, 1) := by decide +kernel
theorem dL_law_9 : decode cL_law 9 = .ok (.aload_n 0, 1) := by decide +kernel
theorem dL_law_10 : decode cL_law 10 = .ok (.invokestatic 75, 3) := by decide +kernel
theorem dL_law_13 : decode cL_law 13 = .ok (.astore_n 2, 1) := by decide +kernel
theorem dL_law_14 : decode cL_law 14 = .ok (.aload_n 2, 1) := by decide +kernel
theorem dL_law_15 : decode cL_law 15 = .ok (.ifnonnull 5, 3) := by decide +kernel
theorem dL_law_18 : decode cL_law 18 = .ok (.iconst 0, 1) := by decide +kernel
theorem dL_law_19 : decode cL_law 19 = .ok (.ireturn, 1) := by decide +kernel
theorem dL_law_20 : decode cL_law 20 = .ok (.iconst 0, 1) := by decide +kernel
theorem dL_law_21 : decode cL_law 21 = .ok (.istore_n 3, 1) := by decide +kernel
theorem dL_law_22 : decode cL_law 22 = .ok (.iload_n 3, 1) := by decide +kernel
theorem dL_law_23 : decode cL_law 23 = .ok (.bipush 26, 2) := by decide +kernel
theorem dL_law_25 : decode cL_law 25 = .ok (.if_icmp .ge 1467, 3) := by decide +kernel
theorem dL_law_28 : decode cL_law 28 = .ok (.aload_n 0, 1) := by decide +kernel
theorem dL_law_29 : decode cL_law 29 = .ok (.iload_n 3, 1) := by decide +kernel
theorem dL_law_30 : decode cL_law 30 = .ok (.bipush 16, 2) := by decide +kernel
theorem dL_law_32 : decode cL_law 32 = .ok (.irem, 1) := by decide +kernel
theorem dL_law_33 : decode cL_law 33 = .ok (.invokestatic 58, 3) := by decide +kernel
theorem dL_law_36 : decode cL_law 36 = .ok (.iload_n 3, 1) := by decide +kernel
theorem dL_law_37 : decode cL_law 37 = .ok (.bipush 16, 2) := by decide +kernel
theorem dL_law_39 : decode cL_law 39 = .ok (.idiv, 1) := by decide +kernel
theorem dL_law_40 : decode cL_law 40 = .ok (.iconst 5, 1) := by decide +kernel
theorem dL_law_41 : decode cL_law 41 = .ok (.imul, 1) := by decide +kernel
theorem dL_law_42 : decode cL_law 42 = .ok (.ishr, 1) := by decide +kernel
theorem dL_law_43 : decode cL_law 43 = .ok (.bipush 53, 2) := by decide +kernel
theorem dL_law_45 : decode cL_law 45 = .ok (.iload_n 3, 1) := by decide +kernel
theorem dL_law_46 : decode cL_law 46 = .ok (.imul, 1) := by decide +kernel
theorem dL_law_47 : decode cL_law 47 = .ok (.iadd, 1) := by decide +kernel
theorem dL_law_48 : decode cL_law 48 = .ok (.istore 4, 2) := by decide +kernel
theorem dL_law_50 : decode cL_law 50 = .ok (.iconst 0, 1) := by decide +kernel
theorem dL_law_51 : decode cL_law 51 = .ok (.istore 5, 2) := by decide +kernel
theorem dL_law_53 : decode cL_law 53 = .ok (.iload 5, 2) := by decide +kernel
theorem dL_law_55 : decode cL_law 55 = .ok (.iconst 2, 1) := by decide +kernel
theorem dL_law_56 : decode cL_law 56 = .ok (.if_icmp .ge 32, 3) := by decide +kernel
theorem dL_law_59 : decode cL_law 59 = .ok (.aload_n 1, 1) := by decide +kernel
theorem dL_law_60 : decode cL_law 60 = .ok (.aload_n 2, 1) := by decide +kernel
theorem dL_law_61 : decode cL_law 61 = .ok (.iload 4, 2) := by decide +kernel
theorem dL_law_63 : decode cL_law 63 = .ok (.iconst 2, 1) := by decide +kernel
theorem dL_law_64 : decode cL_law 64 = .ok (.iload 5, 2) := by decide +kernel
theorem dL_law_66 : decode cL_law 66 = .ok (.imul, 1) := by decide +kernel
theorem dL_law_67 : decode cL_law 67 = .ok (.ishr, 1) := by decide +kernel
theorem dL_law_68 : decode cL_law 68 = .ok (.bipush 17, 2) := by decide +kernel
theorem dL_law_70 : decode cL_law 70 = .ok (.iload 5, 2) := by decide +kernel
theorem dL_law_72 : decode cL_law 72 = .ok (.imul, 1) := by decide +kernel
theorem dL_law_73 : decode cL_law 73 = .ok (.iadd, 1) := by decide +kernel
theorem dL_law_74 : decode cL_law 74 = .ok (.invokestatic 63, 3) := by decide +kernel
theorem dL_law_77 : decode cL_law 77 = .ok (.ifCond .ne 5, 3) := by decide +kernel
theorem dL_law_80 : decode cL_law 80 = .ok (.iconst 0, 1) := by decide +kernel
theorem dL_law_81 : decode cL_law 81 = .ok (.ireturn, 1) := by decide +kernel
theorem dL_law_82 : decode cL_law 82 = .ok (.iinc 5 1, 3) := by decide +kernel
theorem dL_law_85 : decode cL_law 85 = .ok (.goto (-32), 3) := by decide +kernel
theorem dL_law_88 : decode cL_law 88 = .ok (.bipush 64, 2) := by decide +kernel
theorem dL_law_90 : decode cL_law 90 = .ok (.bipush 6, 2) := by decide +kernel
theorem dL_law_92 : decode cL_law 92 = .ok (.multianewarray 78 2, 4) := by decide +kernel
theorem dL_law_96 : decode cL_law 96 = .ok (.astore 5, 2) := by decide +kernel
theorem dL_law_98 : decode cL_law 98 = .ok (.bipush 7, 2) := by decide +kernel
theorem dL_law_100 : decode cL_law 100 = .ok (.newarray .int, 2) := by decide +kernel
theorem dL_law_102 : decode cL_law 102 = .ok (.astore 6, 2) := by decide +kernel
theorem dL_law_104 : decode cL_law 104 = .ok (.bipush 64, 2) := by decide +kernel
theorem dL_law_106 : decode cL_law 106 = .ok (.newarray .int, 2) := by decide +kernel
theorem dL_law_108 : decode cL_law 108 = .ok (.astore 7, 2) := by decide +kernel
theorem dL_law_110 : decode cL_law 110 = .ok (.iconst 0, 1) := by decide +kernel
theorem dL_law_111 : decode cL_law 111 = .ok (.istore 8, 2) := by decide +kernel
theorem dL_law_113 : decode cL_law 113 = .ok (.iconst 0, 1) := by decide +kernel
theorem dL_law_114 : decode cL_law 114 = .ok (.istore 9, 2) := by decide +kernel
theorem dL_law_116 : decode cL_law 116 = .ok (.iconst 0, 1) := by decide +kernel
theorem dL_law_117 : decode cL_law 117 = .ok (.istore 10, 2) := by decide +kernel
theorem dL_law_119 : decode cL_law 119 = .ok (.iload 10, 2) := by decide +kernel
theorem dL_law_121 : decode cL_law 121 = .ok (.bipush 64, 2) := by decide +kernel
theorem dL_law_123 : decode cL_law 123 = .ok (.if_icmp .ge 343, 3) := by decide +kernel
theorem dL_law_126 : decode cL_law 126 = .ok (.iconst 0, 1) := by decide +kernel
theorem dL_law_127 : decode cL_law 127 = .ok (.istore 11, 2) := by decide +kernel
theorem dL_law_129 : decode cL_law 129 = .ok (.iload 11, 2) := by decide +kernel
theorem dL_law_131 : decode cL_law 131 = .ok (.bipush 6, 2) := by decide +kernel
theorem dL_law_133 : decode cL_law 133 = .ok (.if_icmp .ge 33, 3) := by decide +kernel
theorem dL_law_136 : decode cL_law 136 = .ok (.aload 5, 2) := by decide +kernel
theorem dL_law_138 : decode cL_law 138 = .ok (.iload 10, 2) := by decide +kernel
theorem dL_law_140 : decode cL_law 140 = .ok (.aaload, 1) := by decide +kernel
theorem dL_law_141 : decode cL_law 141 = .ok (.iload 11, 2) := by decide +kernel
theorem dL_law_143 : decode cL_law 143 = .ok (.aload_n 1, 1) := by decide +kernel
theorem dL_law_144 : decode cL_law 144 = .ok (.iload 10, 2) := by decide +kernel
theorem dL_law_146 : decode cL_law 146 = .ok (.bipush 8, 2) := by decide +kernel
theorem dL_law_148 : decode cL_law 148 = .ok (.irem, 1) := by decide +kernel
theorem dL_law_149 : decode cL_law 149 = .ok (.iload 10, 2) := by decide +kernel
theorem dL_law_151 : decode cL_law 151 = .ok (.bipush 8, 2) := by decide +kernel
theorem dL_law_153 : decode cL_law 153 = .ok (.idiv, 1) := by decide +kernel
theorem dL_law_154 : decode cL_law 154 = .ok (.iload 11, 2) := by decide +kernel
theorem dL_law_156 : decode cL_law 156 = .ok (.invokevirtual 79, 3) := by decide +kernel
theorem dL_law_159 : decode cL_law 159 = .ok (.iastore, 1) := by decide +kernel
theorem dL_law_160 : decode cL_law 160 = .ok (.iinc 11 1, 3) := by decide +kernel
theorem dL_law_163 : decode cL_law 163 = .ok (.goto (-34), 3) := by decide +kernel
theorem dL_law_166 : decode cL_law 166 = .ok (.aload 5, 2) := by decide +kernel
theorem dL_law_168 : decode cL_law 168 = .ok (.iload 10, 2) := by decide +kernel
theorem dL_law_170 : decode cL_law 170 = .ok (.aaload, 1) := by decide +kernel
theorem dL_law_171 : decode cL_law 171 = .ok (.astore 11, 2) := by decide +kernel
theorem dL_law_173 : decode cL_law 173 = .ok (.aload 6, 2) := by decide +kernel
theorem dL_law_175 : decode cL_law 175 = .ok (.aload 11, 2) := by decide +kernel
theorem dL_law_177 : decode cL_law 177 = .ok (.iconst 0, 1) := by decide +kernel
theorem dL_law_178 : decode cL_law 178 = .ok (.iaload, 1) := by decide +kernel
theorem dL_law_179 : decode cL_law 179 = .ok (.dup2, 1) := by decide +kernel
theorem dL_law_180 : decode cL_law 180 = .ok (.iaload, 1) := by decide +kernel
theorem dL_law_181 : decode cL_law 181 = .ok (.iconst 1, 1) := by decide +kernel
theorem dL_law_182 : decode cL_law 182 = .ok (.iadd, 1) := by decide +kernel
theorem dL_law_183 : decode cL_law 183 = .ok (.iastore, 1) := by decide +kernel
theorem dL_law_184 : decode cL_law 184 = .ok (.aload 11, 2) := by decide +kernel
theorem dL_law_186 : decode cL_law 186 = .ok (.iconst 1, 1) := by decide +kernel
theorem dL_law_187 : decode cL_law 187 = .ok (.iaload, 1) := by decide +kernel
theorem dL_law_188 : decode cL_law 188 = .ok (.ifCond .lt 14, 3) := by decide +kernel
theorem dL_law_191 : decode cL_law 191 = .ok (.aload 7, 2) := by decide +kernel
theorem dL_law_193 : decode cL_law 193 = .ok (.aload 11, 2) := by decide +kernel
theorem dL_law_195 : decode cL_law 195 = .ok (.iconst 1, 1) := by decide +kernel
theorem dL_law_196 : decode cL_law 196 = .ok (.iaload, 1) := by decide +kernel
theorem dL_law_197 : decode cL_law 197 = .ok (.dup2, 1) := by decide +kernel
theorem dL_law_198 : decode cL_law 198 = .ok (.iaload, 1) := by decide +kernel
theorem dL_law_199 : decode cL_law 199 = .ok (.iconst 1, 1) := by decide +kernel
theorem dL_law_200 : decode cL_law 200 = .ok (.iadd, 1) := by decide +kernel
theorem dL_law_201 : decode cL_law 201 = .ok (.iastore, 1) := by decide +kernel
theorem dL_law_202 : decode cL_law 202 = .ok (.iload 8, 2) := by decide +kernel
theorem dL_law_204 : decode cL_law 204 = .ok (.aload 11, 2) := by decide +kernel
theorem dL_law_206 : decode cL_law 206 = .ok (.iconst 4, 1) := by decide +kernel
theorem dL_law_207 : decode cL_law 207 = .ok (.iaload, 1) := by decide +kernel
theorem dL_law_208 : decode cL_law 208 = .ok (.iadd, 1) := by decide +kernel
theorem dL_law_209 : decode cL_law 209 = .ok (.istore 8, 2) := by decide +kernel
theorem dL_law_211 : decode cL_law 211 = .ok (.iload 9, 2) := by decide +kernel
theorem dL_law_213 : decode cL_law 213 = .ok (.aload 11, 2) := by decide +kernel
theorem dL_law_215 : decode cL_law 215 = .ok (.iconst 5, 1) := by decide +kernel
theorem dL_law_216 : decode cL_law 216 = .ok (.iaload, 1) := by decide +kernel
theorem dL_law_217 : decode cL_law 217 = .ok (.iadd, 1) := by decide +kernel
theorem dL_law_218 : decode cL_law 218 = .ok (.istore 9, 2) := by decide +kernel
theorem dL_law_220 : decode cL_law 220 = .ok (.aload 11, 2) := by decide +kernel
theorem dL_law_222 : decode cL_law 222 = .ok (.iconst 0, 1) := by decide +kernel
theorem dL_law_223 : decode cL_law 223 = .ok (.iaload, 1) := by decide +kernel
theorem dL_law_224 : decode cL_law 224 = .ok (.iconst 2, 1) := by decide +kernel
theorem dL_law_225 : decode cL_law 225 = .ok (.if_icmp .ge 7, 3) := by decide +kernel
theorem dL_law_228 : decode cL_law 228 = .ok (.iconst 1, 1) := by decide +kernel
theorem dL_law_229 : decode cL_law 229 = .ok (.goto 4, 3) := by decide +kernel
theorem dL_law_232 : decode cL_law 232 = .ok (.iconst 0, 1) := by decide +kernel
theorem dL_law_233 : decode cL_law 233 = .ok (.aload 11, 2) := by decide +kernel
theorem dL_law_235 : decode cL_law 235 = .ok (.iconst 1, 1) := by decide +kernel
theorem dL_law_236 : decode cL_law 236 = .ok (.iaload, 1) := by decide +kernel
theorem dL_law_237 : decode cL_law 237 = .ok (.ifCond .ge 7, 3) := by decide +kernel
theorem dL_law_240 : decode cL_law 240 = .ok (.iconst 1, 1) := by decide +kernel
theorem dL_law_241 : decode cL_law 241 = .ok (.goto 4, 3) := by decide +kernel
theorem dL_law_244 : decode cL_law 244 = .ok (.iconst 0, 1) := by decide +kernel
theorem dL_law_245 : decode cL_law 245 = .ok (.if_icmp .ne 213, 3) := by decide +kernel
theorem dL_law_248 : decode cL_law 248 = .ok (.aload 11, 2) := by decide +kernel
theorem dL_law_250 : decode cL_law 250 = .ok (.iconst 1, 1) := by decide +kernel
theorem dL_law_251 : decode cL_law 251 = .ok (.iaload, 1) := by decide +kernel
theorem dL_law_252 : decode cL_law 252 = .ok (.iload 10, 2) := by decide +kernel
theorem dL_law_254 : decode cL_law 254 = .ok (.if_icmp .gt 204, 3) := by decide +kernel
theorem dL_law_257 : decode cL_law 257 = .ok (.aload 11, 2) := by decide +kernel
theorem dL_law_259 : decode cL_law 259 = .ok (.iconst 0, 1) := by decide +kernel
theorem dL_law_260 : decode cL_law 260 = .ok (.iaload, 1) := by decide +kernel
theorem dL_law_261 : decode cL_law 261 = .ok (.iconst 2, 1) := by decide +kernel
theorem dL_law_262 : decode cL_law 262 = .ok (.if_icmp .ge 7, 3) := by decide +kernel
theorem dL_law_265 : decode cL_law 265 = .ok (.iconst 1, 1) := by decide +kernel
theorem dL_law_266 : decode cL_law 266 = .ok (.goto 4, 3) := by decide +kernel
theorem dL_law_269 : decode cL_law 269 = .ok (.iconst 0, 1) := by decide +kernel
theorem dL_law_270 : decode cL_law 270 = .ok (.aload 11, 2) := by decide +kernel
theorem dL_law_272 : decode cL_law 272 = .ok (.iconst 2, 1) := by decide +kernel
theorem dL_law_273 : decode cL_law 273 = .ok (.iaload, 1) := by decide +kernel
theorem dL_law_274 : decode cL_law 274 = .ok (.ifCond .ne 7, 3) := by decide +kernel
theorem dL_law_277 : decode cL_law 277 = .ok (.iconst 1, 1) := by decide +kernel
theorem dL_law_278 : decode cL_law 278 = .ok (.goto 4, 3) := by decide +kernel
theorem dL_law_281 : decode cL_law 281 = .ok (.iconst 0, 1) := by decide +kernel
theorem dL_law_282 : decode cL_law 282 = .ok (.if_icmp .ne 176, 3) := by decide +kernel
theorem dL_law_285 : decode cL_law 285 = .ok (.aload 11, 2) := by decide +kernel
theorem dL_law_287 : decode cL_law 287 = .ok (.iconst 3, 1) := by decide +kernel
theorem dL_law_288 : decode cL_law 288 = .ok (.iaload, 1) := by decide +kernel
theorem dL_law_289 : decode cL_law 289 = .ok (.ifCond .lt 169, 3) := by decide +kernel
theorem dL_law_292 : decode cL_law 292 = .ok (.aload 11, 2) := by decide +kernel
theorem dL_law_294 : decode cL_law 294 = .ok (.iconst 3, 1) := by decide +kernel
theorem dL_law_295 : decode cL_law 295 = .ok (.iaload, 1) := by decide +kernel
theorem dL_law_296 : decode cL_law 296 = .ok (.iconst 1, 1) := by decide +kernel
theorem dL_law_297 : decode cL_law 297 = .ok (.if_icmp .gt 161, 3) := by decide +kernel
theorem dL_law_300 : decode cL_law 300 = .ok (.aload 11, 2) := by decide +kernel
theorem dL_law_302 : decode cL_law 302 = .ok (.iconst 0, 1) := by decide +kernel
theorem dL_law_303 : decode cL_law 303 = .ok (.iaload, 1) := by decide +kernel
theorem dL_law_304 : decode cL_law 304 = .ok (.ifCond .ne 10, 3) := by decide +kernel
theorem dL_law_307 : decode cL_law 307 = .ok (.aload 11, 2) := by decide +kernel
theorem dL_law_309 : decode cL_law 309 = .ok (.iconst 3, 1) := by decide +kernel
theorem dL_law_310 : decode cL_law 310 = .ok (.iaload, 1) := by decide +kernel
theorem dL_law_311 : decode cL_law 311 = .ok (.ifCond .ne 147, 3) := by decide +kernel
theorem dL_law_314 : decode cL_law 314 = .ok (.aload 11, 2) := by decide +kernel
theorem dL_law_316 : decode cL_law 316 = .ok (.iconst 0, 1) := by decide +kernel
theorem dL_law_317 : decode cL_law 317 = .ok (.iaload, 1) := by decide +kernel
theorem dL_law_318 : decode cL_law 318 = .ok (.iconst 3, 1) := by decide +kernel
theorem dL_law_319 : decode cL_law 319 = .ok (.if_icmp .eq 10, 3) := by decide +kernel
theorem dL_law_322 : decode cL_law 322 = .ok (.aload 11, 2) := by decide +kernel
theorem dL_law_324 : decode cL_law 324 = .ok (.iconst 4, 1) := by decide +kernel
theorem dL_law_325 : decode cL_law 325 = .ok (.iaload, 1) := by decide +kernel
theorem dL_law_326 : decode cL_law 326 = .ok (.ifCond .ne 132, 3) := by decide +kernel
theorem dL_law_329 : decode cL_law 329 = .ok (.aload 11, 2) := by decide +kernel
theorem dL_law_331 : decode cL_law 331 = .ok (.iconst 4, 1) := by decide +kernel
theorem dL_law_332 : decode cL_law 332 = .ok (.iaload, 1) := by decide +kernel
theorem dL_law_333 : decode cL_law 333 = .ok (.ifCond .lt 125, 3) := by decide +kernel
theorem dL_law_336 : decode cL_law 336 = .ok (.aload 11, 2) := by decide +kernel
theorem dL_law_338 : decode cL_law 338 = .ok (.iconst 4, 1) := by decide +kernel
theorem dL_law_339 : decode cL_law 339 = .ok (.iaload, 1) := by decide +kernel
theorem dL_law_340 : decode cL_law 340 = .ok (.bipush 7, 2) := by decide +kernel
theorem dL_law_342 : decode cL_law 342 = .ok (.if_icmp .gt 116, 3) := by decide +kernel
theorem dL_law_345 : decode cL_law 345 = .ok (.aload 11, 2) := by decide +kernel
theorem dL_law_347 : decode cL_law 347 = .ok (.iconst 5, 1) := by decide +kernel
theorem dL_law_348 : decode cL_law 348 = .ok (.iaload, 1) := by decide +kernel
theorem dL_law_349 : decode cL_law 349 = .ok (.ifCond .lt 109, 3) := by decide +kernel
theorem dL_law_352 : decode cL_law 352 = .ok (.aload 11, 2) := by decide +kernel
theorem dL_law_354 : decode cL_law 354 = .ok (.iconst 0, 1) := by decide +kernel
theorem dL_law_355 : decode cL_law 355 = .ok (.iaload, 1) := by decide +kernel
theorem dL_law_356 : decode cL_law 356 = .ok (.iconst 3, 1) := by decide +kernel
theorem dL_law_357 : decode cL_law 357 = .ok (.if_icmp .ne 20, 3) := by decide +kernel
theorem dL_law_360 : decode cL_law 360 = .ok (.aload 11, 2) := by decide +kernel
theorem dL_law_362 : decode cL_law 362 = .ok (.iconst 5, 1) := by decide +kernel
theorem dL_law_363 : decode cL_law 363 = .ok (.iaload, 1) := by decide +kernel
theorem dL_law_364 : decode cL_law 364 = .ok (.iconst 0, 1) := by decide +kernel
theorem dL_law_365 : decode cL_law 365 = .ok (.iconst 4, 1) := by decide +kernel
theorem dL_law_366 : decode cL_law 366 = .ok (.aload 11, 2) := by decide +kernel
theorem dL_law_368 : decode cL_law 368 = .ok (.iconst 4, 1) := by decide +kernel
theorem dL_law_369 : decode cL_law 369 = .ok (.iaload, 1) := by decide +kernel
theorem dL_law_370 : decode cL_law 370 = .ok (.isub, 1) := by decide +kernel
theorem dL_law_371 : decode cL_law 371 = .ok (.invokestatic 82, 3) := by decide +kernel
theorem dL_law_374 : decode cL_law 374 = .ok (.if_icmp .ne 84, 3) := by decide +kernel
theorem dL_law_377 : decode cL_law 377 = .ok (.aload 11, 2) := by decide +kernel
theorem dL_law_379 : decode cL_law 379 = .ok (.iconst 0, 1) := by decide +kernel
theorem dL_law_380 : decode cL_law 380 = .ok (.iaload, 1) := by decide +kernel
theorem dL_law_381 : decode cL_law 381 = .ok (.iconst 4, 1) := by decide +kernel
theorem dL_law_382 : decode cL_law 382 = .ok (.if_icmp .ne 23, 3) := by decide +kernel
theorem dL_law_385 : decode cL_law 385 = .ok (.aload 11, 2) := by decide +kernel
theorem dL_law_387 : decode cL_law 387 = .ok (.iconst 5, 1) := by decide +kernel
theorem dL_law_388 : decode cL_law 388 = .ok (.iaload, 1) := by decide +kernel
theorem dL_law_389 : decode cL_law 389 = .ok (.aload 11, 2) := by decide +kernel
theorem dL_law_391 : decode cL_law 391 = .ok (.iconst 3, 1) := by decide +kernel
theorem dL_law_392 : decode cL_law 392 = .ok (.iaload, 1) := by decide +kernel
theorem dL_law_393 : decode cL_law 393 = .ok (.iconst 1, 1) := by decide +kernel
theorem dL_law_394 : decode cL_law 394 = .ok (.if_icmp .ne 7, 3) := by decide +kernel
theorem dL_law_397 : decode cL_law 397 = .ok (.iconst 5, 1) := by decide +kernel
theorem dL_law_398 : decode cL_law 398 = .ok (.goto 4, 3) := by decide +kernel
theorem dL_law_401 : decode cL_law 401 = .ok (.iconst 2, 1) := by decide +kernel
theorem dL_law_402 : decode cL_law 402 = .ok (.if_icmp .ne 56, 3) := by decide +kernel
theorem dL_law_405 : decode cL_law 405 = .ok (.aload 11, 2) := by decide +kernel
theorem dL_law_407 : decode cL_law 407 = .ok (.iconst 0, 1) := by decide +kernel
theorem dL_law_408 : decode cL_law 408 = .ok (.iaload, 1) := by decide +kernel
theorem dL_law_409 : decode cL_law 409 = .ok (.iconst 3, 1) := by decide +kernel
theorem dL_law_410 : decode cL_law 410 = .ok (.if_icmp .ge 10, 3) := by decide +kernel
theorem dL_law_413 : decode cL_law 413 = .ok (.aload 11, 2) := by decide +kernel
theorem dL_law_415 : decode cL_law 415 = .ok (.iconst 5, 1) := by decide +kernel
theorem dL_law_416 : decode cL_law 416 = .ok (.iaload, 1) := by decide +kernel
theorem dL_law_417 : decode cL_law 417 = .ok (.ifCond .ne 41, 3) := by decide +kernel
theorem dL_law_420 : decode cL_law 420 = .ok (.aload 11, 2) := by decide +kernel
theorem dL_law_422 : decode cL_law 422 = .ok (.iconst 0, 1) := by decide +kernel
theorem dL_law_423 : decode cL_law 423 = .ok (.iaload, 1) := by decide +kernel
theorem dL_law_424 : decode cL_law 424 = .ok (.bipush 6, 2) := by decide +kernel
theorem dL_law_426 : decode cL_law 426 = .ok (.if_icmp .ne 10, 3) := by decide +kernel
theorem dL_law_429 : decode cL_law 429 = .ok (.aload 11, 2) := by decide +kernel
theorem dL_law_431 : decode cL_law 431 = .ok (.iconst 5, 1) := by decide +kernel
theorem dL_law_432 : decode cL_law 432 = .ok (.iaload, 1) := by decide +kernel
theorem dL_law_433 : decode cL_law 433 = .ok (.ifCond .ne 25, 3) := by decide +kernel
theorem dL_law_436 : decode cL_law 436 = .ok (.aload 11, 2) := by decide +kernel
theorem dL_law_438 : decode cL_law 438 = .ok (.iconst 0, 1) := by decide +kernel
theorem dL_law_439 : decode cL_law 439 = .ok (.iaload, 1) := by decide +kernel
theorem dL_law_440 : decode cL_law 440 = .ok (.iconst 3, 1) := by decide +kernel
theorem dL_law_441 : decode cL_law 441 = .ok (.if_icmp .ne 19, 3) := by decide +kernel
theorem dL_law_444 : decode cL_law 444 = .ok (.aload 11, 2) := by decide +kernel
theorem dL_law_446 : decode cL_law 446 = .ok (.iconst 3, 1) := by decide +kernel
theorem dL_law_447 : decode cL_law 447 = .ok (.iaload, 1) := by decide +kernel
theorem dL_law_448 : decode cL_law 448 = .ok (.ifCond .ne 12, 3) := by decide +kernel
theorem dL_law_451 : decode cL_law 451 = .ok (.aload 11, 2) := by decide +kernel
theorem dL_law_453 : decode cL_law 453 = .ok (.iconst 4, 1) := by decide +kernel
theorem dL_law_454 : decode cL_law 454 = .ok (.iaload, 1) := by decide +kernel
theorem dL_law_455 : decode cL_law 455 = .ok (.ifCond .ne 5, 3) := by decide +kernel
theorem dL_law_458 : decode cL_law 458 = .ok (.iconst 0, 1) := by decide +kernel
theorem dL_law_459 : decode cL_law 459 = .ok (.ireturn, 1) := by decide +kernel
theorem dL_law_460 : decode cL_law 460 = .ok (.iinc 10 1, 3) := by decide +kernel
theorem dL_law_463 : decode cL_law 463 = .ok (.goto (-344), 3) := by decide +kernel
theorem dL_law_466 : decode cL_law 466 = .ok (.iconst 0, 1) := by decide +kernel
theorem dL_law_467 : decode cL_law 467 = .ok (.istore 10, 2) := by decide +kernel
theorem dL_law_469 : decode cL_law 469 = .ok (.iconst 0, 1) := by decide +kernel
theorem dL_law_470 : decode cL_law 470 = .ok (.istore 11, 2) := by decide +kernel
theorem dL_law_472 : decode cL_law 472 = .ok (.iload 11, 2) := by decide +kernel
theorem dL_law_474 : decode cL_law 474 = .ok (.bipush 64, 2) := by decide +kernel
theorem dL_law_476 : decode cL_law 476 = .ok (.if_icmp .ge 333, 3) := by decide +kernel
theorem dL_law_479 : decode cL_law 479 = .ok (.iload 10, 2) := by decide +kernel
theorem dL_law_481 : decode cL_law 481 = .ok (.aload 7, 2) := by decide +kernel
theorem dL_law_483 : decode cL_law 483 = .ok (.iload 11, 2) := by decide +kernel
theorem dL_law_485 : decode cL_law 485 = .ok (.iaload, 1) := by decide +kernel
theorem dL_law_486 : decode cL_law 486 = .ok (.ifCond .le 7, 3) := by decide +kernel
theorem dL_law_489 : decode cL_law 489 = .ok (.iconst 1, 1) := by decide +kernel
theorem dL_law_490 : decode cL_law 490 = .ok (.goto 4, 3) := by decide +kernel
theorem dL_law_493 : decode cL_law 493 = .ok (.iconst 0, 1) := by decide +kernel
theorem dL_law_494 : decode cL_law 494 = .ok (.iadd, 1) := by decide +kernel
theorem dL_law_495 : decode cL_law 495 = .ok (.istore 10, 2) := by decide +kernel
theorem dL_law_497 : decode cL_law 497 = .ok (.aload 7, 2) := by decide +kernel
theorem dL_law_499 : decode cL_law 499 = .ok (.iload 11, 2) := by decide +kernel
theorem dL_law_501 : decode cL_law 501 = .ok (.iaload, 1) := by decide +kernel
theorem dL_law_502 : decode cL_law 502 = .ok (.ifCond .le 32, 3) := by decide +kernel
theorem dL_law_505 : decode cL_law 505 = .ok (.aload 5, 2) := by decide +kernel
theorem dL_law_507 : decode cL_law 507 = .ok (.iload 11, 2) := by decide +kernel
theorem dL_law_509 : decode cL_law 509 = .ok (.aaload, 1) := by decide +kernel
theorem dL_law_510 : decode cL_law 510 = .ok (.iconst 1, 1) := by decide +kernel
theorem dL_law_511 : decode cL_law 511 = .ok (.iaload, 1) := by decide +kernel
theorem dL_law_512 : decode cL_law 512 = .ok (.iload 11, 2) := by decide +kernel
theorem dL_law_514 : decode cL_law 514 = .ok (.if_icmp .ne 18, 3) := by decide +kernel
theorem dL_law_517 : decode cL_law 517 = .ok (.aload 5, 2) := by decide +kernel
theorem dL_law_519 : decode cL_law 519 = .ok (.iload 11, 2) := by decide +kernel
theorem dL_law_521 : decode cL_law 521 = .ok (.aaload, 1) := by decide +kernel
theorem dL_law_522 : decode cL_law 522 = .ok (.iconst 2, 1) := by decide +kernel
theorem dL_law_523 : decode cL_law 523 = .ok (.iaload, 1) := by decide +kernel
theorem dL_law_524 : decode cL_law 524 = .ok (.aload 7, 2) := by decide +kernel
theorem dL_law_526 : decode cL_law 526 = .ok (.iload 11, 2) := by decide +kernel
theorem dL_law_528 : decode cL_law 528 = .ok (.iaload, 1) := by decide +kernel
theorem dL_law_529 : decode cL_law 529 = .ok (.if_icmp .eq 5, 3) := by decide +kernel
theorem dL_law_532 : decode cL_law 532 = .ok (.iconst 0, 1) := by decide +kernel
theorem dL_law_533 : decode cL_law 533 = .ok (.ireturn, 1) := by decide +kernel
theorem dL_law_534 : decode cL_law 534 = .ok (.iconst 0, 1) := by decide +kernel
theorem dL_law_535 : decode cL_law 535 = .ok (.istore 12, 2) := by decide +kernel
theorem dL_law_537 : decode cL_law 537 = .ok (.iload 12, 2) := by decide +kernel
theorem dL_law_539 : decode cL_law 539 = .ok (.iconst 2, 1) := by decide +kernel
theorem dL_law_540 : decode cL_law 540 = .ok (.if_icmp .ge 263, 3) := by decide +kernel
theorem dL_law_543 : decode cL_law 543 = .ok (.iload 12, 2) := by decide +kernel
theorem dL_law_545 : decode cL_law 545 = .ok (.ifCond .ne 16, 3) := by decide +kernel
theorem dL_law_548 : decode cL_law 548 = .ok (.iload 11, 2) := by decide +kernel
theorem dL_law_550 : decode cL_law 550 = .ok (.bipush 8, 2) := by decide +kernel
theorem dL_law_552 : decode cL_law 552 = .ok (.irem, 1) := by decide +kernel
theorem dL_law_553 : decode cL_law 553 = .ok (.bipush 7, 2) := by decide +kernel
theorem dL_law_555 : decode cL_law 555 = .ok (.if_icmp .ne 16, 3) := by decide +kernel
theorem dL_law_558 : decode cL_law 558 = .ok (.goto 239, 3) := by decide +kernel
theorem dL_law_561 : decode cL_law 561 = .ok (.iload 11, 2) := by decide +kernel
theorem dL_law_563 : decode cL_law 563 = .ok (.bipush 55, 2) := by decide +kernel
theorem dL_law_565 : decode cL_law 565 = .ok (.if_icmp .le 6, 3) := by decide +kernel
theorem dL_law_568 : decode cL_law 568 = .ok (.goto 229, 3) := by decide +kernel
theorem dL_law_571 : decode cL_law 571 = .ok (.iload 12, 2) := by decide +kernel
theorem dL_law_573 : decode cL_law 573 = .ok (.ifCond .ne 10, 3) := by decide +kernel
theorem dL_law_576 : decode cL_law 576 = .ok (.iload 11, 2) := by decide +kernel
theorem dL_law_578 : decode cL_law 578 = .ok (.iconst 1, 1) := by decide +kernel
theorem dL_law_579 : decode cL_law 579 = .ok (.iadd, 1) := by decide +kernel
theorem dL_law_580 : decode cL_law 580 = .ok (.goto 8, 3) := by decide +kernel
theorem dL_law_583 : decode cL_law 583 = .ok (.iload 11, 2) := by decide +kernel
theorem dL_law_585 : decode cL_law 585 = .ok (.bipush 8, 2) := by decide +kernel
theorem dL_law_587 : decode cL_law 587 = .ok (.iadd, 1) := by decide +kernel
theorem dL_law_588 : decode cL_law 588 = .ok (.istore 13, 2) := by decide +kernel
theorem dL_law_590 : decode cL_law 590 = .ok (.aload 5, 2) := by decide +kernel
theorem dL_law_592 : decode cL_law 592 = .ok (.iload 11, 2) := by decide +kernel
theorem dL_law_594 : decode cL_law 594 = .ok (.aaload, 1) := by decide +kernel
theorem dL_law_595 : decode cL_law 595 = .ok (.iconst 0, 1) := by decide +kernel
theorem dL_law_596 : decode cL_law 596 = .ok (.iaload, 1) := by decide +kernel
theorem dL_law_597 : decode cL_law 597 = .ok (.iconst 1, 1) := by decide +kernel
theorem dL_law_598 : decode cL_law 598 = .ok (.if_icmp .eq 15, 3) := by decide +kernel
theorem dL_law_601 : decode cL_law 601 = .ok (.aload 5, 2) := by decide +kernel
theorem dL_law_603 : decode cL_law 603 = .ok (.iload 11, 2) := by decide +kernel
theorem dL_law_605 : decode cL_law 605 = .ok (.aaload, 1) := by decide +kernel
theorem dL_law_606 : decode cL_law 606 = .ok (.iconst 0, 1) := by decide +kernel
theorem dL_law_607 : decode cL_law 607 = .ok (.iaload, 1) := by decide +kernel
theorem dL_law_608 : decode cL_law 608 = .ok (.bipush 6, 2) := by decide +kernel
theorem dL_law_610 : decode cL_law 610 = .ok (.if_icmp .ne 7, 3) := by decide +kernel
theorem dL_law_613 : decode cL_law 613 = .ok (.iconst 1, 1) := by decide +kernel
theorem dL_law_614 : decode cL_law 614 = .ok (.goto 4, 3) := by decide +kernel
theorem dL_law_617 : decode cL_law 617 = .ok (.iconst 0, 1) := by decide +kernel
theorem dL_law_618 : decode cL_law 618 = .ok (.istore 14, 2) := by decide +kernel
theorem dL_law_620 : decode cL_law 620 = .ok (.aload 5, 2) := by decide +kernel
theorem dL_law_622 : decode cL_law 622 = .ok (.iload 13, 2) := by decide +kernel
theorem dL_law_624 : decode cL_law 624 = .ok (.aaload, 1) := by decide +kernel
theorem dL_law_625 : decode cL_law 625 = .ok (.iconst 0, 1) := by decide +kernel
theorem dL_law_626 : decode cL_law 626 = .ok (.iaload, 1) := by decide +kernel
theorem dL_law_627 : decode cL_law 627 = .ok (.iconst 1, 1) := by decide +kernel
theorem dL_law_628 : decode cL_law 628 = .ok (.if_icmp .eq 15, 3) := by decide +kernel
theorem dL_law_631 : decode cL_law 631 = .ok (.aload 5, 2) := by decide +kernel
theorem dL_law_633 : decode cL_law 633 = .ok (.iload 13, 2) := by decide +kernel
theorem dL_law_635 : decode cL_law 635 = .ok (.aaload, 1) := by decide +kernel
theorem dL_law_636 : decode cL_law 636 = .ok (.iconst 0, 1) := by decide +kernel
theorem dL_law_637 : decode cL_law 637 = .ok (.iaload, 1) := by decide +kernel
theorem dL_law_638 : decode cL_law 638 = .ok (.bipush 6, 2) := by decide +kernel
theorem dL_law_640 : decode cL_law 640 = .ok (.if_icmp .ne 7, 3) := by decide +kernel
theorem dL_law_643 : decode cL_law 643 = .ok (.iconst 1, 1) := by decide +kernel
theorem dL_law_644 : decode cL_law 644 = .ok (.goto 4, 3) := by decide +kernel
theorem dL_law_647 : decode cL_law 647 = .ok (.iconst 0, 1) := by decide +kernel
theorem dL_law_648 : decode cL_law 648 = .ok (.istore 15, 2) := by decide +kernel
theorem dL_law_650 : decode cL_law 650 = .ok (.aload 5, 2) := by decide +kernel
theorem dL_law_652 : decode cL_law 652 = .ok (.iload 11, 2) := by decide +kernel
theorem dL_law_654 : decode cL_law 654 = .ok (.aaload, 1) := by decide +kernel
theorem dL_law_655 : decode cL_law 655 = .ok (.iconst 0, 1) := by decide +kernel
theorem dL_law_656 : decode cL_law 656 = .ok (.iaload, 1) := by decide +kernel
theorem dL_law_657 : decode cL_law 657 = .ok (.iconst 1, 1) := by decide +kernel
theorem dL_law_658 : decode cL_law 658 = .ok (.if_icmp .le 45, 3) := by decide +kernel
theorem dL_law_661 : decode cL_law 661 = .ok (.aload 5, 2) := by decide +kernel
theorem dL_law_663 : decode cL_law 663 = .ok (.iload 13, 2) := by decide +kernel
theorem dL_law_665 : decode cL_law 665 = .ok (.aaload, 1) := by decide +kernel
theorem dL_law_666 : decode cL_law 666 = .ok (.iconst 0, 1) := by decide +kernel
theorem dL_law_667 : decode cL_law 667 = .ok (.iaload, 1) := by decide +kernel
theorem dL_law_668 : decode cL_law 668 = .ok (.iconst 1, 1) := by decide +kernel
theorem dL_law_669 : decode cL_law 669 = .ok (.if_icmp .le 34, 3) := by decide +kernel
theorem dL_law_672 : decode cL_law 672 = .ok (.aload 5, 2) := by decide +kernel
theorem dL_law_674 : decode cL_law 674 = .ok (.iload 11, 2) := by decide +kernel
theorem dL_law_676 : decode cL_law 676 = .ok (.aaload, 1) := by decide +kernel
theorem dL_law_677 : decode cL_law 677 = .ok (.iconst 1, 1) := by decide +kernel
theorem dL_law_678 : decode cL_law 678 = .ok (.iaload, 1) := by decide +kernel
theorem dL_law_679 : decode cL_law 679 = .ok (.aload 5, 2) := by decide +kernel
theorem dL_law_681 : decode cL_law 681 = .ok (.iload 13, 2) := by decide +kernel
theorem dL_law_683 : decode cL_law 683 = .ok (.aaload, 1) := by decide +kernel
theorem dL_law_684 : decode cL_law 684 = .ok (.iconst 1, 1) := by decide +kernel
theorem dL_law_685 : decode cL_law 685 = .ok (.iaload, 1) := by decide +kernel
theorem dL_law_686 : decode cL_law 686 = .ok (.if_icmp .ne 15, 3) := by decide +kernel
theorem dL_law_689 : decode cL_law 689 = .ok (.aload_n 1, 1) := by decide +kernel
theorem dL_law_690 : decode cL_law 690 = .ok (.iload 11, 2) := by decide +kernel
theorem dL_law_692 : decode cL_law 692 = .ok (.iload 13, 2) := by decide +kernel
theorem dL_law_694 : decode cL_law 694 = .ok (.invokevirtual 87, 3) := by decide +kernel
theorem dL_law_697 : decode cL_law 697 = .ok (.iconst 1, 1) := by decide +kernel
theorem dL_law_698 : decode cL_law 698 = .ok (.if_icmp .eq 5, 3) := by decide +kernel
theorem dL_law_701 : decode cL_law 701 = .ok (.iconst 0, 1) := by decide +kernel
theorem dL_law_702 : decode cL_law 702 = .ok (.ireturn, 1) := by decide +kernel
theorem dL_law_703 : decode cL_law 703 = .ok (.iload 14, 2) := by decide +kernel
theorem dL_law_705 : decode cL_law 705 = .ok (.ifCond .eq 47, 3) := by decide +kernel
theorem dL_law_708 : decode cL_law 708 = .ok (.iload 15, 2) := by decide +kernel
theorem dL_law_710 : decode cL_law 710 = .ok (.ifCond .eq 42, 3) := by decide +kernel
theorem dL_law_713 : decode cL_law 713 = .ok (.aload 5, 2) := by decide +kernel
theorem dL_law_715 : decode cL_law 715 = .ok (.iload 11, 2) := by decide +kernel
theorem dL_law_717 : decode cL_law 717 = .ok (.aaload, 1) := by decide +kernel
theorem dL_law_718 : decode cL_law 718 = .ok (.iconst 3, 1) := by decide +kernel
theorem dL_law_719 : decode cL_law 719 = .ok (.iaload, 1) := by decide +kernel
theorem dL_law_720 : decode cL_law 720 = .ok (.aload 5, 2) := by decide +kernel
theorem dL_law_722 : decode cL_law 722 = .ok (.iload 13, 2) := by decide +kernel
theorem dL_law_724 : decode cL_law 724 = .ok (.aaload, 1) := by decide +kernel
theorem dL_law_725 : decode cL_law 725 = .ok (.iconst 3, 1) := by decide +kernel
theorem dL_law_726 : decode cL_law 726 = .ok (.iaload, 1) := by decide +kernel
theorem dL_law_727 : decode cL_law 727 = .ok (.if_icmp .ne 23, 3) := by decide +kernel
theorem dL_law_730 : decode cL_law 730 = .ok (.aload_n 1, 1) := by decide +kernel
theorem dL_law_731 : decode cL_law 731 = .ok (.iload 11, 2) := by decide +kernel
theorem dL_law_733 : decode cL_law 733 = .ok (.invokevirtual 90, 3) := by decide +kernel
theorem dL_law_736 : decode cL_law 736 = .ok (.aload_n 1, 1) := by decide +kernel
theorem dL_law_737 : decode cL_law 737 = .ok (.iload 13, 2) := by decide +kernel
theorem dL_law_739 : decode cL_law 739 = .ok (.invokevirtual 90, 3) := by decide +kernel
theorem dL_law_742 : decode cL_law 742 = .ok (.isub, 1) := by decide +kernel
theorem dL_law_743 : decode cL_law 743 = .ok (.invokestatic 93, 3) := by decide +kernel
theorem dL_law_746 : decode cL_law 746 = .ok (.iconst 1, 1) := by decide +kernel
theorem dL_law_747 : decode cL_law 747 = .ok (.if_icmp .le 5, 3) := by decide +kernel
theorem dL_law_750 : decode cL_law 750 = .ok (.iconst 0, 1) := by decide +kernel
theorem dL_law_751 : decode cL_law 751 = .ok (.ireturn, 1) := by decide +kernel
theorem dL_law_752 : decode cL_law 752 = .ok (.iload 14, 2) := by decide +kernel
theorem dL_law_754 : decode cL_law 754 = .ok (.ifCond .eq 43, 3) := by decide +kernel
theorem dL_law_757 : decode cL_law 757 = .ok (.iload 15, 2) := by decide +kernel
theorem dL_law_759 : decode cL_law 759 = .ok (.ifCond .ne 38, 3) := by decide +kernel
theorem dL_law_762 : decode cL_law 762 = .ok (.aload 5, 2) := by decide +kernel
theorem dL_law_764 : decode cL_law 764 = .ok (.iload 11, 2) := by decide +kernel
theorem dL_law_766 : decode cL_law 766 = .ok (.aaload, 1) := by decide +kernel
theorem dL_law_767 : decode cL_law 767 = .ok (.iconst 3, 1) := by decide +kernel
theorem dL_law_768 : decode cL_law 768 = .ok (.iaload, 1) := by decide +kernel
theorem dL_law_769 : decode cL_law 769 = .ok (.iconst 1, 1) := by decide +kernel
theorem dL_law_770 : decode cL_law 770 = .ok (.if_icmp .ne 27, 3) := by decide +kernel
theorem dL_law_773 : decode cL_law 773 = .ok (.aload 5, 2) := by decide +kernel
theorem dL_law_775 : decode cL_law 775 = .ok (.iload 13, 2) := by decide +kernel
theorem dL_law_777 : decode cL_law 777 = .ok (.aaload, 1) := by decide +kernel
theorem dL_law_778 : decode cL_law 778 = .ok (.iconst 0, 1) := by decide +kernel
theorem dL_law_779 : decode cL_law 779 = .ok (.iaload, 1) := by decide +kernel
theorem dL_law_780 : decode cL_law 780 = .ok (.iconst 1, 1) := by decide +kernel
theorem dL_law_781 : decode cL_law 781 = .ok (.if_icmp .le 16, 3) := by decide +kernel
theorem dL_law_784 : decode cL_law 784 = .ok (.aload 5, 2) := by decide +kernel
theorem dL_law_786 : decode cL_law 786 = .ok (.iload 13, 2) := by decide +kernel
theorem dL_law_788 : decode cL_law 788 = .ok (.aaload, 1) := by decide +kernel
theorem dL_law_789 : decode cL_law 789 = .ok (.iconst 3, 1) := by decide +kernel
theorem dL_law_790 : decode cL_law 790 = .ok (.iaload, 1) := by decide +kernel
theorem dL_law_791 : decode cL_law 791 = .ok (.iconst 1, 1) := by decide +kernel
theorem dL_law_792 : decode cL_law 792 = .ok (.if_icmp .eq 5, 3) := by decide +kernel
theorem dL_law_795 : decode cL_law 795 = .ok (.iconst 0, 1) := by decide +kernel
theorem dL_law_796 : decode cL_law 796 = .ok (.ireturn, 1) := by decide +kernel
theorem dL_law_797 : decode cL_law 797 = .ok (.iinc 12 1, 3) := by decide +kernel
theorem dL_law_800 : decode cL_law 800 = .ok (.goto (-263), 3) := by decide +kernel
theorem dL_law_803 : decode cL_law 803 = .ok (.iinc 11 1, 3) := by decide +kernel
theorem dL_law_806 : decode cL_law 806 = .ok (.goto (-334), 3) := by decide +kernel
theorem dL_law_809 : decode cL_law 809 = .ok (.aload_n 1, 1) := by decide +kernel
theorem dL_law_810 : decode cL_law 810 = .ok (.bipush 9, 2) := by decide +kernel
theorem dL_law_812 : decode cL_law 812 = .ok (.invokevirtual 96, 3) := by decide +kernel
theorem dL_law_815 : decode cL_law 815 = .ok (.iload 10, 2) := by decide +kernel
theorem dL_law_817 : decode cL_law 817 = .ok (.if_icmp .ne 35, 3) := by decide +kernel
theorem dL_law_820 : decode cL_law 820 = .ok (.aload_n 1, 1) := by decide +kernel
theorem dL_law_821 : decode cL_law 821 = .ok (.bipush 10, 2) := by decide +kernel
theorem dL_law_823 : decode cL_law 823 = .ok (.invokevirtual 96, 3) := by decide +kernel
theorem dL_law_826 : decode cL_law 826 = .ok (.iload 8, 2) := by decide +kernel
theorem dL_law_828 : decode cL_law 828 = .ok (.if_icmp .ne 24, 3) := by decide +kernel
theorem dL_law_831 : decode cL_law 831 = .ok (.aload_n 1, 1) := by decide +kernel
theorem dL_law_832 : decode cL_law 832 = .ok (.bipush 11, 2) := by decide +kernel
theorem dL_law_834 : decode cL_law 834 = .ok (.invokevirtual 96, 3) := by decide +kernel
theorem dL_law_837 : decode cL_law 837 = .ok (.iload 9, 2) := by decide +kernel
theorem dL_law_839 : decode cL_law 839 = .ok (.if_icmp .ne 13, 3) := by decide +kernel
theorem dL_law_842 : decode cL_law 842 = .ok (.aload 5, 2) := by decide +kernel
theorem dL_law_844 : decode cL_law 844 = .ok (.iconst 3, 1) := by decide +kernel
theorem dL_law_845 : decode cL_law 845 = .ok (.aaload, 1) := by decide +kernel
theorem dL_law_846 : decode cL_law 846 = .ok (.iconst 3, 1) := by decide +kernel
theorem dL_law_847 : decode cL_law 847 = .ok (.iaload, 1) := by decide +kernel
theorem dL_law_848 : decode cL_law 848 = .ok (.iconst 1, 1) := by decide +kernel
theorem dL_law_849 : decode cL_law 849 = .ok (.if_icmp .eq 5, 3) := by decide +kernel
theorem dL_law_852 : decode cL_law 852 = .ok (.iconst 0, 1) := by decide +kernel
theorem dL_law_853 : decode cL_law 853 = .ok (.ireturn, 1) := by decide +kernel
theorem dL_law_854 : decode cL_law 854 = .ok (.iconst 0, 1) := by decide +kernel
theorem dL_law_855 : decode cL_law 855 = .ok (.istore 11, 2) := by decide +kernel
theorem dL_law_857 : decode cL_law 857 = .ok (.iload 11, 2) := by decide +kernel
theorem dL_law_859 : decode cL_law 859 = .ok (.bipush 7, 2) := by decide +kernel
theorem dL_law_861 : decode cL_law 861 = .ok (.if_icmp .ge 27, 3) := by decide +kernel
theorem dL_law_864 : decode cL_law 864 = .ok (.aload_n 1, 1) := by decide +kernel
theorem dL_law_865 : decode cL_law 865 = .ok (.iconst 2, 1) := by decide +kernel
theorem dL_law_866 : decode cL_law 866 = .ok (.iload 11, 2) := by decide +kernel
theorem dL_law_868 : decode cL_law 868 = .ok (.iadd, 1) := by decide +kernel
theorem dL_law_869 : decode cL_law 869 = .ok (.invokevirtual 96, 3) := by decide +kernel
theorem dL_law_872 : decode cL_law 872 = .ok (.aload 6, 2) := by decide +kernel
theorem dL_law_874 : decode cL_law 874 = .ok (.iload 11, 2) := by decide +kernel
theorem dL_law_876 : decode cL_law 876 = .ok (.iaload, 1) := by decide +kernel
theorem dL_law_877 : decode cL_law 877 = .ok (.if_icmp .eq 5, 3) := by decide +kernel
theorem dL_law_880 : decode cL_law 880 = .ok (.iconst 0, 1) := by decide +kernel
theorem dL_law_881 : decode cL_law 881 = .ok (.ireturn, 1) := by decide +kernel
theorem dL_law_882 : decode cL_law 882 = .ok (.iinc 11 1, 3) := by decide +kernel
theorem dL_law_885 : decode cL_law 885 = .ok (.goto (-28), 3) := by decide +kernel
theorem dL_law_888 : decode cL_law 888 = .ok (.aload_n 1, 1) := by decide +kernel
theorem dL_law_889 : decode cL_law 889 = .ok (.invokevirtual 99, 3) := by decide +kernel
theorem dL_law_892 : decode cL_law 892 = .ok (.lstore 11, 2) := by decide +kernel
theorem dL_law_894 : decode cL_law 894 = .ok (.bipush 13, 2) := by decide +kernel
theorem dL_law_896 : decode cL_law 896 = .ok (.newarray .int, 2) := by decide +kernel
theorem dL_law_898 : decode cL_law 898 = .ok (.astore 13, 2) := by decide +kernel
theorem dL_law_900 : decode cL_law 900 = .ok (.iconst 1, 1) := by decide +kernel
theorem dL_law_901 : decode cL_law 901 = .ok (.istore 14, 2) := by decide +kernel
theorem dL_law_903 : decode cL_law 903 = .ok (.iload 14, 2) := by decide +kernel
theorem dL_law_905 : decode cL_law 905 = .ok (.bipush 13, 2) := by decide +kernel
theorem dL_law_907 : decode cL_law 907 = .ok (.if_icmp .ge 21, 3) := by decide +kernel
theorem dL_law_910 : decode cL_law 910 = .ok (.aload 13, 2) := by decide +kernel
theorem dL_law_912 : decode cL_law 912 = .ok (.iload 14, 2) := by decide +kernel
theorem dL_law_914 : decode cL_law 914 = .ok (.aload_n 1, 1) := by decide +kernel
theorem dL_law_915 : decode cL_law 915 = .ok (.iconst 1, 1) := by decide +kernel
theorem dL_law_916 : decode cL_law 916 = .ok (.iload 14, 2) := by decide +kernel
theorem dL_law_918 : decode cL_law 918 = .ok (.invokevirtual 103, 3) := by decide +kernel
theorem dL_law_921 : decode cL_law 921 = .ok (.iastore, 1) := by decide +kernel
theorem dL_law_922 : decode cL_law 922 = .ok (.iinc 14 1, 3) := by decide +kernel
theorem dL_law_925 : decode cL_law 925 = .ok (.goto (-22), 3) := by decide +kernel
theorem dL_law_928 : decode cL_law 928 = .ok (.iconst 3, 1) := by decide +kernel
theorem dL_law_929 : decode cL_law 929 = .ok (.iload 4, 2) := by decide +kernel
theorem dL_law_931 : decode cL_law 931 = .ok (.iconst 4, 1) := by decide +kernel
theorem dL_law_932 : decode cL_law 932 = .ok (.ishr, 1) := by decide +kernel
theorem dL_law_933 : decode cL_law 933 = .ok (.iconst 3, 1) := by decide +kernel
theorem dL_law_934 : decode cL_law 934 = .ok (.invokestatic 9, 3) := by decide +kernel
theorem dL_law_937 : decode cL_law 937 = .ok (.iadd, 1) := by decide +kernel
theorem dL_law_938 : decode cL_law 938 = .ok (.istore 14, 2) := by decide +kernel
theorem dL_law_940 : decode cL_law 940 = .ok (.aload_n 1, 1) := by decide +kernel
theorem dL_law_941 : decode cL_law 941 = .ok (.iload 14, 2) := by decide +kernel
theorem dL_law_943 : decode cL_law 943 = .ok (.invokevirtual 106, 3) := by decide +kernel
theorem dL_law_946 : decode cL_law 946 = .ok (.istore 15, 2) := by decide +kernel
theorem dL_law_948 : decode cL_law 948 = .ok (.iload 15, 2) := by decide +kernel
theorem dL_law_950 : decode cL_law 950 = .ok (.ifCond .ge 7, 3) := by decide +kernel
theorem dL_law_953 : decode cL_law 953 = .ok (.iconst 0, 1) := by decide +kernel
theorem dL_law_954 : decode cL_law 954 = .ok (.goto 19, 3) := by decide +kernel
theorem dL_law_957 : decode cL_law 957 = .ok (.aload_n 1, 1) := by decide +kernel
theorem dL_law_958 : decode cL_law 958 = .ok (.iload 15, 2) := by decide +kernel
theorem dL_law_960 : decode cL_law 960 = .ok (.bipush 8, 2) := by decide +kernel
theorem dL_law_962 : decode cL_law 962 = .ok (.irem, 1) := by decide +kernel
theorem dL_law_963 : decode cL_law 963 = .ok (.iload 15, 2) := by decide +kernel
theorem dL_law_965 : decode cL_law 965 = .ok (.bipush 8, 2) := by decide +kernel
theorem dL_law_967 : decode cL_law 967 = .ok (.idiv, 1) := by decide +kernel
theorem dL_law_968 : decode cL_law 968 = .ok (.iload 14, 2) := by decide +kernel
theorem dL_law_970 : decode cL_law 970 = .ok (.invokevirtual 109, 3) := by decide +kernel
theorem dL_law_973 : decode cL_law 973 = .ok (.istore 16, 2) := by decide +kernel
theorem dL_law_975 : decode cL_law 975 = .ok (.iconst 0, 1) := by decide +kernel
theorem dL_law_976 : decode cL_law 976 = .ok (.istore 17, 2) := by decide +kernel
theorem dL_law_978 : decode cL_law 978 = .ok (.iload 17, 2) := by decide +kernel
theorem dL_law_980 : decode cL_law 980 = .ok (.bipush 64, 2) := by decide +kernel
theorem dL_law_982 : decode cL_law 982 = .ok (.if_icmp .ge 69, 3) := by decide +kernel
theorem dL_law_985 : decode cL_law 985 = .ok (.aload 5, 2) := by decide +kernel
theorem dL_law_987 : decode cL_law 987 = .ok (.iload 17, 2) := by decide +kernel
theorem dL_law_989 : decode cL_law 989 = .ok (.aaload, 1) := by decide +kernel
theorem dL_law_990 : decode cL_law 990 = .ok (.iconst 0, 1) := by decide +kernel
theorem dL_law_991 : decode cL_law 991 = .ok (.iaload, 1) := by decide +kernel
theorem dL_law_992 : decode cL_law 992 = .ok (.iconst 2, 1) := by decide +kernel
theorem dL_law_993 : decode cL_law 993 = .ok (.if_icmp .eq 6, 3) := by decide +kernel
theorem dL_law_996 : decode cL_law 996 = .ok (.goto 49, 3) := by decide +kernel
theorem dL_law_999 : decode cL_law 999 = .ok (.aload_n 1, 1) := by decide +kernel
theorem dL_law_1000 : decode cL_law 1000 = .ok (.iload 17, 2) := by decide +kernel
theorem dL_law_1002 : decode cL_law 1002 = .ok (.bipush 8, 2) := by decide +kernel
theorem dL_law_1004 : decode cL_law 1004 = .ok (.irem, 1) := by decide +kernel
theorem dL_law_1005 : decode cL_law 1005 = .ok (.iload 17, 2) := by decide +kernel
theorem dL_law_1007 : decode cL_law 1007 = .ok (.bipush 8, 2) := by decide +kernel
theorem dL_law_1009 : decode cL_law 1009 = .ok (.idiv, 1) := by decide +kernel
theorem dL_law_1010 : decode cL_law 1010 = .ok (.iload 14, 2) := by decide +kernel
theorem dL_law_1012 : decode cL_law 1012 = .ok (.invokevirtual 109, 3) := by decide +kernel
theorem dL_law_1015 : decode cL_law 1015 = .ok (.istore 18, 2) := by decide +kernel
theorem dL_law_1017 : decode cL_law 1017 = .ok (.iload 15, 2) := by decide +kernel
theorem dL_law_1019 : decode cL_law 1019 = .ok (.ifCond .lt 24, 3) := by decide +kernel
theorem dL_law_1022 : decode cL_law 1022 = .ok (.iload 18, 2) := by decide +kernel
theorem dL_law_1024 : decode cL_law 1024 = .ok (.iload 16, 2) := by decide +kernel
theorem dL_law_1026 : decode cL_law 1026 = .ok (.if_icmp .gt 17, 3) := by decide +kernel
theorem dL_law_1029 : decode cL_law 1029 = .ok (.iload 18, 2) := by decide +kernel
theorem dL_law_1031 : decode cL_law 1031 = .ok (.iload 16, 2) := by decide +kernel
theorem dL_law_1033 : decode cL_law 1033 = .ok (.if_icmp .ne 12, 3) := by decide +kernel
theorem dL_law_1036 : decode cL_law 1036 = .ok (.iload 17, 2) := by decide +kernel
theorem dL_law_1038 : decode cL_law 1038 = .ok (.iload 15, 2) := by decide +kernel
theorem dL_law_1040 : decode cL_law 1040 = .ok (.if_icmp .ge 5, 3) := by decide +kernel
theorem dL_law_1043 : decode cL_law 1043 = .ok (.iconst 0, 1) := by decide +kernel
theorem dL_law_1044 : decode cL_law 1044 = .ok (.ireturn, 1) := by decide +kernel
theorem dL_law_1045 : decode cL_law 1045 = .ok (.iinc 17 1, 3) := by decide +kernel
theorem dL_law_1048 : decode cL_law 1048 = .ok (.goto (-70), 3) := by decide +kernel
theorem dL_law_1051 : decode cL_law 1051 = .ok (.iload 15, 2) := by decide +kernel
theorem dL_law_1053 : decode cL_law 1053 = .ok (.ifCond .lt 14, 3) := by decide +kernel
theorem dL_law_1056 : decode cL_law 1056 = .ok (.aload 5, 2) := by decide +kernel
theorem dL_law_1058 : decode cL_law 1058 = .ok (.iload 15, 2) := by decide +kernel
theorem dL_law_1060 : decode cL_law 1060 = .ok (.aaload, 1) := by decide +kernel
theorem dL_law_1061 : decode cL_law 1061 = .ok (.iconst 0, 1) := by decide +kernel
theorem dL_law_1062 : decode cL_law 1062 = .ok (.iaload, 1) := by decide +kernel
theorem dL_law_1063 : decode cL_law 1063 = .ok (.iconst 2, 1) := by decide +kernel
theorem dL_law_1064 : decode cL_law 1064 = .ok (.if_icmp .ne 13, 3) := by decide +kernel
theorem dL_law_1067 : decode cL_law 1067 = .ok (.aload_n 1, 1) := by decide +kernel
theorem dL_law_1068 : decode cL_law 1068 = .ok (.invokevirtual 99, 3) := by decide +kernel
theorem dL_law_1071 : decode cL_law 1071 = .ok (.lload 11, 2) := by decide +kernel
theorem dL_law_1073 : decode cL_law 1073 = .ok (.lcmp, 1) := by decide +kernel
theorem dL_law_1074 : decode cL_law 1074 = .ok (.ifCond .eq 5, 3) := by decide +kernel
theorem dL_law_1077 : decode cL_law 1077 = .ok (.iconst 0, 1) := by decide +kernel
theorem dL_law_1078 : decode cL_law 1078 = .ok (.ireturn, 1) := by decide +kernel
theorem dL_law_1079 : decode cL_law 1079 = .ok (.aload_n 1, 1) := by decide +kernel
theorem dL_law_1080 : decode cL_law 1080 = .ok (.iconst 1, 1) := by decide +kernel
theorem dL_law_1081 : decode cL_law 1081 = .ok (.invokevirtual 96, 3) := by decide +kernel
theorem dL_law_1084 : decode cL_law 1084 = .ok (.istore 17, 2) := by decide +kernel
theorem dL_law_1086 : decode cL_law 1086 = .ok (.aload_n 1, 1) := by decide +kernel
theorem dL_law_1087 : decode cL_law 1087 = .ok (.bipush 12, 2) := by decide +kernel
theorem dL_law_1089 : decode cL_law 1089 = .ok (.invokevirtual 96, 3) := by decide +kernel
theorem dL_law_1092 : decode cL_law 1092 = .ok (.istore 18, 2) := by decide +kernel
theorem dL_law_1094 : decode cL_law 1094 = .ok (.aload_n 1, 1) := by decide +kernel
theorem dL_law_1095 : decode cL_law 1095 = .ok (.iconst 1, 1) := by decide +kernel
theorem dL_law_1096 : decode cL_law 1096 = .ok (.invokevirtual 67, 3) := by decide +kernel
theorem dL_law_1099 : decode cL_law 1099 = .ok (.istore 19, 2) := by decide +kernel
theorem dL_law_1101 : decode cL_law 1101 = .ok (.aload_n 2, 1) := by decide +kernel
theorem dL_law_1102 : decode cL_law 1102 = .ok (.invokevirtual 71, 3) := by decide +kernel
theorem dL_law_1105 : decode cL_law 1105 = .ok (.iload 19, 2) := by decide +kernel
theorem dL_law_1107 : decode cL_law 1107 = .ok (.if_icmp .ne 23, 3) := by decide +kernel
theorem dL_law_1110 : decode cL_law 1110 = .ok (.iload 19, 2) := by decide +kernel
theorem dL_law_1112 : decode cL_law 1112 = .ok (.iload 9, 2) := by decide +kernel
theorem dL_law_1114 : decode cL_law 1114 = .ok (.if_icmp .ne 16, 3) := by decide +kernel
theorem dL_law_1117 : decode cL_law 1117 = .ok (.aload_n 1, 1) := by decide +kernel
theorem dL_law_1118 : decode cL_law 1118 = .ok (.iconst 1, 1) := by decide +kernel
theorem dL_law_1119 : decode cL_law 1119 = .ok (.invokevirtual 96, 3) := by decide +kernel
theorem dL_law_1122 : decode cL_law 1122 = .ok (.iload 17, 2) := by decide +kernel
theorem dL_law_1124 : decode cL_law 1124 = .ok (.iload 9, 2) := by decide +kernel
theorem dL_law_1126 : decode cL_law 1126 = .ok (.iadd, 1) := by decide +kernel
theorem dL_law_1127 : decode cL_law 1127 = .ok (.if_icmp .eq 5, 3) := by decide +kernel
theorem dL_law_1130 : decode cL_law 1130 = .ok (.iconst 0, 1) := by decide +kernel
theorem dL_law_1131 : decode cL_law 1131 = .ok (.ireturn, 1) := by decide +kernel
theorem dL_law_1132 : decode cL_law 1132 = .ok (.iconst 1, 1) := by decide +kernel
theorem dL_law_1133 : decode cL_law 1133 = .ok (.istore 20, 2) := by decide +kernel
theorem dL_law_1135 : decode cL_law 1135 = .ok (.iload 20, 2) := by decide +kernel
theorem dL_law_1137 : decode cL_law 1137 = .ok (.bipush 13, 2) := by decide +kernel
theorem dL_law_1139 : decode cL_law 1139 = .ok (.if_icmp .ge 25, 3) := by decide +kernel
theorem dL_law_1142 : decode cL_law 1142 = .ok (.aload_n 1, 1) := by decide +kernel
theorem dL_law_1143 : decode cL_law 1143 = .ok (.iload 20, 2) := by decide +kernel
theorem dL_law_1145 : decode cL_law 1145 = .ok (.invokevirtual 96, 3) := by decide +kernel
theorem dL_law_1148 : decode cL_law 1148 = .ok (.aload 13, 2) := by decide +kernel
theorem dL_law_1150 : decode cL_law 1150 = .ok (.iload 20, 2) := by decide +kernel
theorem dL_law_1152 : decode cL_law 1152 = .ok (.iaload, 1) := by decide +kernel
theorem dL_law_1153 : decode cL_law 1153 = .ok (.if_icmp .eq 5, 3) := by decide +kernel
theorem dL_law_1156 : decode cL_law 1156 = .ok (.iconst 0, 1) := by decide +kernel
theorem dL_law_1157 : decode cL_law 1157 = .ok (.ireturn, 1) := by decide +kernel
theorem dL_law_1158 : decode cL_law 1158 = .ok (.iinc 20 1, 3) := by decide +kernel
theorem dL_law_1161 : decode cL_law 1161 = .ok (.goto (-26), 3) := by decide +kernel
theorem dL_law_1164 : decode cL_law 1164 = .ok (.iconst 0, 1) := by decide +kernel
theorem dL_law_1165 : decode cL_law 1165 = .ok (.istore 20, 2) := by decide +kernel
theorem dL_law_1167 : decode cL_law 1167 = .ok (.iconst 0, 1) := by decide +kernel
theorem dL_law_1168 : decode cL_law 1168 = .ok (.istore 21, 2) := by decide +kernel
theorem dL_law_1170 : decode cL_law 1170 = .ok (.iload 21, 2) := by decide +kernel
theorem dL_law_1172 : decode cL_law 1172 = .ok (.bipush 64, 2) := by decide +kernel
theorem dL_law_1174 : decode cL_law 1174 = .ok (.if_icmp .ge 296, 3) := by decide +kernel
theorem dL_law_1177 : decode cL_law 1177 = .ok (.aload_n 1, 1) := by decide +kernel
theorem dL_law_1178 : decode cL_law 1178 = .ok (.iload 21, 2) := by decide +kernel
theorem dL_law_1180 : decode cL_law 1180 = .ok (.bipush 8, 2) := by decide +kernel
theorem dL_law_1182 : decode cL_law 1182 = .ok (.irem, 1) := by decide +kernel
theorem dL_law_1183 : decode cL_law 1183 = .ok (.iload 21, 2) := by decide +kernel
theorem dL_law_1185 : decode cL_law 1185 = .ok (.bipush 8, 2) := by decide +kernel
theorem dL_law_1187 : decode cL_law 1187 = .ok (.idiv, 1) := by decide +kernel
theorem dL_law_1188 : decode cL_law 1188 = .ok (.iconst 0, 1) := by decide +kernel
theorem dL_law_1189 : decode cL_law 1189 = .ok (.invokevirtual 79, 3) := by decide +kernel
theorem dL_law_1192 : decode cL_law 1192 = .ok (.istore 22, 2) := by decide +kernel
theorem dL_law_1194 : decode cL_law 1194 = .ok (.aload 5, 2) := by decide +kernel
theorem dL_law_1196 : decode cL_law 1196 = .ok (.iload 21, 2) := by decide +kernel
theorem dL_law_1198 : decode cL_law 1198 = .ok (.aaload, 1) := by decide +kernel
theorem dL_law_1199 : decode cL_law 1199 = .ok (.iconst 4, 1) := by decide +kernel
theorem dL_law_1200 : decode cL_law 1200 = .ok (.iaload, 1) := by decide +kernel
theorem dL_law_1201 : decode cL_law 1201 = .ok (.iconst 4, 1) := by decide +kernel
theorem dL_law_1202 : decode cL_law 1202 = .ok (.if_icmp .lt 7, 3) := by decide +kernel
theorem dL_law_1205 : decode cL_law 1205 = .ok (.iconst 1, 1) := by decide +kernel
theorem dL_law_1206 : decode cL_law 1206 = .ok (.goto 4, 3) := by decide +kernel
theorem dL_law_1209 : decode cL_law 1209 = .ok (.iconst 0, 1) := by decide +kernel
theorem dL_law_1210 : decode cL_law 1210 = .ok (.istore 23, 2) := by decide +kernel
theorem dL_law_1212 : decode cL_law 1212 = .ok (.iload 20, 2) := by decide +kernel
theorem dL_law_1214 : decode cL_law 1214 = .ok (.iload 23, 2) := by decide +kernel
theorem dL_law_1216 : decode cL_law 1216 = .ok (.ifCond .eq 7, 3) := by decide +kernel
theorem dL_law_1219 : decode cL_law 1219 = .ok (.iconst 1, 1) := by decide +kernel
theorem dL_law_1220 : decode cL_law 1220 = .ok (.goto 4, 3) := by decide +kernel
theorem dL_law_1223 : decode cL_law 1223 = .ok (.iconst 0, 1) := by decide +kernel
theorem dL_law_1224 : decode cL_law 1224 = .ok (.iadd, 1) := by decide +kernel
theorem dL_law_1225 : decode cL_law 1225 = .ok (.istore 20, 2) := by decide +kernel
theorem dL_law_1227 : decode cL_law 1227 = .ok (.iload 22, 2) := by decide +kernel
theorem dL_law_1229 : decode cL_law 1229 = .ok (.aload 5, 2) := by decide +kernel
theorem dL_law_1231 : decode cL_law 1231 = .ok (.iload 21, 2) := by decide +kernel
theorem dL_law_1233 : decode cL_law 1233 = .ok (.aaload, 1) := by decide +kernel
theorem dL_law_1234 : decode cL_law 1234 = .ok (.iconst 0, 1) := by decide +kernel
theorem dL_law_1235 : decode cL_law 1235 = .ok (.iaload, 1) := by decide +kernel
theorem dL_law_1236 : decode cL_law 1236 = .ok (.if_icmp .ne 10, 3) := by decide +kernel
theorem dL_law_1239 : decode cL_law 1239 = .ok (.iload 23, 2) := by decide +kernel
theorem dL_law_1241 : decode cL_law 1241 = .ok (.ifCond .eq 42, 3) := by decide +kernel
theorem dL_law_1244 : decode cL_law 1244 = .ok (.iconst 0, 1) := by decide +kernel
theorem dL_law_1245 : decode cL_law 1245 = .ok (.ireturn, 1) := by decide +kernel
theorem dL_law_1246 : decode cL_law 1246 = .ok (.iload 22, 2) := by decide +kernel
theorem dL_law_1248 : decode cL_law 1248 = .ok (.iconst 2, 1) := by decide +kernel
theorem dL_law_1249 : decode cL_law 1249 = .ok (.if_icmp .ne 11, 3) := by decide +kernel
theorem dL_law_1252 : decode cL_law 1252 = .ok (.iload 23, 2) := by decide +kernel
theorem dL_law_1254 : decode cL_law 1254 = .ok (.ifCond .ne 29, 3) := by decide +kernel
theorem dL_law_1257 : decode cL_law 1257 = .ok (.goto 24, 3) := by decide +kernel
theorem dL_law_1260 : decode cL_law 1260 = .ok (.iload 22, 2) := by decide +kernel
theorem dL_law_1262 : decode cL_law 1262 = .ok (.ifCond .ne 19, 3) := by decide +kernel
theorem dL_law_1265 : decode cL_law 1265 = .ok (.iload 23, 2) := by decide +kernel
theorem dL_law_1267 : decode cL_law 1267 = .ok (.ifCond .ne 16, 3) := by decide +kernel
theorem dL_law_1270 : decode cL_law 1270 = .ok (.aload 5, 2) := by decide +kernel
theorem dL_law_1272 : decode cL_law 1272 = .ok (.iload 21, 2) := by decide +kernel
theorem dL_law_1274 : decode cL_law 1274 = .ok (.aaload, 1) := by decide +kernel
theorem dL_law_1275 : decode cL_law 1275 = .ok (.iconst 0, 1) := by decide +kernel
theorem dL_law_1276 : decode cL_law 1276 = .ok (.iaload, 1) := by decide +kernel
theorem dL_law_1277 : decode cL_law 1277 = .ok (.iconst 2, 1) := by decide +kernel
theorem dL_law_1278 : decode cL_law 1278 = .ok (.if_icmp .eq 5, 3) := by decide +kernel
theorem dL_law_1281 : decode cL_law 1281 = .ok (.iconst 0, 1) := by decide +kernel
theorem dL_law_1282 : decode cL_law 1282 = .ok (.ireturn, 1) := by decide +kernel
theorem dL_law_1283 : decode cL_law 1283 = .ok (.iload 22, 2) := by decide +kernel
theorem dL_law_1285 : decode cL_law 1285 = .ok (.iconst 2, 1) := by decide +kernel
theorem dL_law_1286 : decode cL_law 1286 = .ok (.if_icmp .eq 27, 3) := by decide +kernel
theorem dL_law_1289 : decode cL_law 1289 = .ok (.iload 22, 2) := by decide +kernel
theorem dL_law_1291 : decode cL_law 1291 = .ok (.ifCond .ne 173, 3) := by decide +kernel
theorem dL_law_1294 : decode cL_law 1294 = .ok (.iload 23, 2) := by decide +kernel
theorem dL_law_1296 : decode cL_law 1296 = .ok (.ifCond .ne 17, 3) := by decide +kernel
theorem dL_law_1299 : decode cL_law 1299 = .ok (.aload 5, 2) := by decide +kernel
theorem dL_law_1301 : decode cL_law 1301 = .ok (.iload 21, 2) := by decide +kernel
theorem dL_law_1303 : decode cL_law 1303 = .ok (.aaload, 1) := by decide +kernel
theorem dL_law_1304 : decode cL_law 1304 = .ok (.iconst 0, 1) := by decide +kernel
theorem dL_law_1305 : decode cL_law 1305 = .ok (.iaload, 1) := by decide +kernel
theorem dL_law_1306 : decode cL_law 1306 = .ok (.iconst 2, 1) := by decide +kernel
theorem dL_law_1307 : decode cL_law 1307 = .ok (.if_icmp .eq 6, 3) := by decide +kernel
theorem dL_law_1310 : decode cL_law 1310 = .ok (.goto 154, 3) := by decide +kernel
theorem dL_law_1313 : decode cL_law 1313 = .ok (.iconst 0, 1) := by decide +kernel
theorem dL_law_1314 : decode cL_law 1314 = .ok (.istore 24, 2) := by decide +kernel
theorem dL_law_1316 : decode cL_law 1316 = .ok (.iload 21, 2) := by decide +kernel
theorem dL_law_1318 : decode cL_law 1318 = .ok (.bipush 8, 2) := by decide +kernel
theorem dL_law_1320 : decode cL_law 1320 = .ok (.irem, 1) := by decide +kernel
theorem dL_law_1321 : decode cL_law 1321 = .ok (.ifCond .le 25, 3) := by decide +kernel
theorem dL_law_1324 : decode cL_law 1324 = .ok (.iload 24, 2) := by decide +kernel
theorem dL_law_1326 : decode cL_law 1326 = .ok (.aload 5, 2) := by decide +kernel
theorem dL_law_1328 : decode cL_law 1328 = .ok (.iload 21, 2) := by decide +kernel
theorem dL_law_1330 : decode cL_law 1330 = .ok (.iconst 1, 1) := by decide +kernel
theorem dL_law_1331 : decode cL_law 1331 = .ok (.isub, 1) := by decide +kernel
theorem dL_law_1332 : decode cL_law 1332 = .ok (.aaload, 1) := by decide +kernel
theorem dL_law_1333 : decode cL_law 1333 = .ok (.iconst 0, 1) := by decide +kernel
theorem dL_law_1334 : decode cL_law 1334 = .ok (.iaload, 1) := by decide +kernel
theorem dL_law_1335 : decode cL_law 1335 = .ok (.ifCond .ne 7, 3) := by decide +kernel
theorem dL_law_1338 : decode cL_law 1338 = .ok (.iconst 1, 1) := by decide +kernel
theorem dL_law_1339 : decode cL_law 1339 = .ok (.goto 4, 3) := by decide +kernel
theorem dL_law_1342 : decode cL_law 1342 = .ok (.iconst 0, 1) := by decide +kernel
theorem dL_law_1343 : decode cL_law 1343 = .ok (.iadd, 1) := by decide +kernel
theorem dL_law_1344 : decode cL_law 1344 = .ok (.istore 24, 2) := by decide +kernel
theorem dL_law_1346 : decode cL_law 1346 = .ok (.iload 21, 2) := by decide +kernel
theorem dL_law_1348 : decode cL_law 1348 = .ok (.bipush 8, 2) := by decide +kernel
theorem dL_law_1350 : decode cL_law 1350 = .ok (.irem, 1) := by decide +kernel
theorem dL_law_1351 : decode cL_law 1351 = .ok (.bipush 7, 2) := by decide +kernel
theorem dL_law_1353 : decode cL_law 1353 = .ok (.if_icmp .ge 25, 3) := by decide +kernel
theorem dL_law_1356 : decode cL_law 1356 = .ok (.iload 24, 2) := by decide +kernel
theorem dL_law_1358 : decode cL_law 1358 = .ok (.aload 5, 2) := by decide +kernel
theorem dL_law_1360 : decode cL_law 1360 = .ok (.iload 21, 2) := by decide +kernel
theorem dL_law_1362 : decode cL_law 1362 = .ok (.iconst 1, 1) := by decide +kernel
theorem dL_law_1363 : decode cL_law 1363 = .ok (.iadd, 1) := by decide +kernel
theorem dL_law_1364 : decode cL_law 1364 = .ok (.aaload, 1) := by decide +kernel
theorem dL_law_1365 : decode cL_law 1365 = .ok (.iconst 0, 1) := by decide +kernel
theorem dL_law_1366 : decode cL_law 1366 = .ok (.iaload, 1) := by decide +kernel
theorem dL_law_1367 : decode cL_law 1367 = .ok (.ifCond .ne 7, 3) := by decide +kernel
theorem dL_law_1370 : decode cL_law 1370 = .ok (.iconst 1, 1) := by decide +kernel
theorem dL_law_1371 : decode cL_law 1371 = .ok (.goto 4, 3) := by decide +kernel
theorem dL_law_1374 : decode cL_law 1374 = .ok (.iconst 0, 1) := by decide +kernel
theorem dL_law_1375 : decode cL_law 1375 = .ok (.iadd, 1) := by decide +kernel
theorem dL_law_1376 : decode cL_law 1376 = .ok (.istore 24, 2) := by decide +kernel
theorem dL_law_1378 : decode cL_law 1378 = .ok (.iload 21, 2) := by decide +kernel
theorem dL_law_1380 : decode cL_law 1380 = .ok (.bipush 7, 2) := by decide +kernel
theorem dL_law_1382 : decode cL_law 1382 = .ok (.if_icmp .le 26, 3) := by decide +kernel
theorem dL_law_1385 : decode cL_law 1385 = .ok (.iload 24, 2) := by decide +kernel
theorem dL_law_1387 : decode cL_law 1387 = .ok (.aload 5, 2) := by decide +kernel
theorem dL_law_1389 : decode cL_law 1389 = .ok (.iload 21, 2) := by decide +kernel
theorem dL_law_1391 : decode cL_law 1391 = .ok (.bipush 8, 2) := by decide +kernel
theorem dL_law_1393 : decode cL_law 1393 = .ok (.isub, 1) := by decide +kernel
theorem dL_law_1394 : decode cL_law 1394 = .ok (.aaload, 1) := by decide +kernel
theorem dL_law_1395 : decode cL_law 1395 = .ok (.iconst 0, 1) := by decide +kernel
theorem dL_law_1396 : decode cL_law 1396 = .ok (.iaload, 1) := by decide +kernel
theorem dL_law_1397 : decode cL_law 1397 = .ok (.ifCond .ne 7, 3) := by decide +kernel
theorem dL_law_1400 : decode cL_law 1400 = .ok (.iconst 1, 1) := by decide +kernel
theorem dL_law_1401 : decode cL_law 1401 = .ok (.goto 4, 3) := by decide +kernel
theorem dL_law_1404 : decode cL_law 1404 = .ok (.iconst 0, 1) := by decide +kernel
theorem dL_law_1405 : decode cL_law 1405 = .ok (.iadd, 1) := by decide +kernel
theorem dL_law_1406 : decode cL_law 1406 = .ok (.istore 24, 2) := by decide +kernel
theorem dL_law_1408 : decode cL_law 1408 = .ok (.iload 21, 2) := by decide +kernel
theorem dL_law_1410 : decode cL_law 1410 = .ok (.bipush 56, 2) := by decide +kernel
theorem dL_law_1412 : decode cL_law 1412 = .ok (.if_icmp .ge 26, 3) := by decide +kernel
theorem dL_law_1415 : decode cL_law 1415 = .ok (.iload 24, 2) := by decide +kernel
theorem dL_law_1417 : decode cL_law 1417 = .ok (.aload 5, 2) := by decide +kernel
theorem dL_law_1419 : decode cL_law 1419 = .ok (.iload 21, 2) := by decide +kernel
theorem dL_law_1421 : decode cL_law 1421 = .ok (.bipush 8, 2) := by decide +kernel
theorem dL_law_1423 : decode cL_law 1423 = .ok (.iadd, 1) := by decide +kernel
theorem dL_law_1424 : decode cL_law 1424 = .ok (.aaload, 1) := by decide +kernel
theorem dL_law_1425 : decode cL_law 1425 = .ok (.iconst 0, 1) := by decide +kernel
theorem dL_law_1426 : decode cL_law 1426 = .ok (.iaload, 1) := by decide +kernel
theorem dL_law_1427 : decode cL_law 1427 = .ok (.ifCond .ne 7, 3) := by decide +kernel
theorem dL_law_1430 : decode cL_law 1430 = .ok (.iconst 1, 1) := by decide +kernel
theorem dL_law_1431 : decode cL_law 1431 = .ok (.goto 4, 3) := by decide +kernel
theorem dL_law_1434 : decode cL_law 1434 = .ok (.iconst 0, 1) := by decide +kernel
theorem dL_law_1435 : decode cL_law 1435 = .ok (.iadd, 1) := by decide +kernel
theorem dL_law_1436 : decode cL_law 1436 = .ok (.istore 24, 2) := by decide +kernel
theorem dL_law_1438 : decode cL_law 1438 = .ok (.iload 22, 2) := by decide +kernel
theorem dL_law_1440 : decode cL_law 1440 = .ok (.ifCond .ne 7, 3) := by decide +kernel
theorem dL_law_1443 : decode cL_law 1443 = .ok (.iconst 1, 1) := by decide +kernel
theorem dL_law_1444 : decode cL_law 1444 = .ok (.goto 4, 3) := by decide +kernel
theorem dL_law_1447 : decode cL_law 1447 = .ok (.iconst 0, 1) := by decide +kernel
theorem dL_law_1448 : decode cL_law 1448 = .ok (.iload 24, 2) := by decide +kernel
theorem dL_law_1450 : decode cL_law 1450 = .ok (.iconst 3, 1) := by decide +kernel
theorem dL_law_1451 : decode cL_law 1451 = .ok (.if_icmp .lt 7, 3) := by decide +kernel
theorem dL_law_1454 : decode cL_law 1454 = .ok (.iconst 1, 1) := by decide +kernel
theorem dL_law_1455 : decode cL_law 1455 = .ok (.goto 4, 3) := by decide +kernel
theorem dL_law_1458 : decode cL_law 1458 = .ok (.iconst 0, 1) := by decide +kernel
theorem dL_law_1459 : decode cL_law 1459 = .ok (.if_icmp .eq 5, 3) := by decide +kernel
theorem dL_law_1462 : decode cL_law 1462 = .ok (.iconst 0, 1) := by decide +kernel
theorem dL_law_1463 : decode cL_law 1463 = .ok (.ireturn, 1) := by decide +kernel
theorem dL_law_1464 : decode cL_law 1464 = .ok (.iinc 21 1, 3) := by decide +kernel
theorem dL_law_1467 : decode cL_law 1467 = .ok (.goto (-297), 3) := by decide +kernel
theorem dL_law_1470 : decode cL_law 1470 = .ok (.aload_n 1, 1) := by decide +kernel
theorem dL_law_1471 : decode cL_law 1471 = .ok (.bipush 12, 2) := by decide +kernel
theorem dL_law_1473 : decode cL_law 1473 = .ok (.invokevirtual 96, 3) := by decide +kernel
theorem dL_law_1476 : decode cL_law 1476 = .ok (.iload 18, 2) := by decide +kernel
theorem dL_law_1478 : decode cL_law 1478 = .ok (.iload 20, 2) := by decide +kernel
theorem dL_law_1480 : decode cL_law 1480 = .ok (.iadd, 1) := by decide +kernel
theorem dL_law_1481 : decode cL_law 1481 = .ok (.if_icmp .eq 5, 3) := by decide +kernel
theorem dL_law_1484 : decode cL_law 1484 = .ok (.iconst 0, 1) := by decide +kernel
theorem dL_law_1485 : decode cL_law 1485 = .ok (.ireturn, 1) := by decide +kernel
theorem dL_law_1486 : decode cL_law 1486 = .ok (.iinc 3 1, 3) := by decide +kernel
theorem dL_law_1489 : decode cL_law 1489 = .ok (.goto (-1467), 3) := by decide +kernel
theorem dL_law_1492 : decode cL_law 1492 = .ok (.aload_n 2, 1) := by decide +kernel
theorem dL_law_1493 : decode cL_law 1493 = .ok (.aload_n 1, 1) := by decide +kernel
theorem dL_law_1494 : decode cL_law 1494 = .ok (.invokevirtual 112, 3) := by decide +kernel
theorem dL_law_1497 : decode cL_law 1497 = .ok (.ireturn, 1) := by decide +kernel
