theorem dL_tick_355 : decode cL_tick 355 = .ok (.aload_n 3, 1) := by decide +kernel
theorem dL_tick_356 : decode cL_tick 356 = .ok (.iload 5, 2) := by decide +kernel
theorem dL_tick_358 : decode cL_tick 358 = .ok (.iconst 4, 1) := by decide +kernel
theorem dL_tick_359 : decode cL_tick 359 = .ok (.iadd, 1) := by decide +kernel
theorem dL_tick_360 : decode cL_tick 360 = .ok (.dup2, 1) := by decide +kernel
theorem dL_tick_361 : decode cL_tick 361 = .ok (.iaload, 1) := by decide +kernel
theorem dL_tick_362 : decode cL_tick 362 = .ok (.iload 8, 2) := by decide +kernel
theorem dL_tick_364 : decode cL_tick 364 = .ok (.iadd, 1) := by decide +kernel
theorem dL_tick_365 : decode cL_tick 365 = .ok (.iastore, 1) := by decide +kernel
theorem dL_tick_366 : decode cL_tick 366 = .ok (.aload_n 3, 1) := by decide +kernel
theorem dL_tick_367 : decode cL_tick 367 = .ok (.iload 5, 2) := by decide +kernel
theorem dL_tick_369 : decode cL_tick 369 = .ok (.iconst 5, 1) := by decide +kernel
theorem dL_tick_370 : decode cL_tick 370 = .ok (.iadd, 1) := by decide +kernel
theorem dL_tick_371 : decode cL_tick 371 = .ok (.dup2, 1) := by decide +kernel
theorem dL_tick_372 : decode cL_tick 372 = .ok (.iaload, 1) := by decide +kernel
theorem dL_tick_373 : decode cL_tick 373 = .ok (.iload 6, 2) := by decide +kernel
theorem dL_tick_375 : decode cL_tick 375 = .ok (.ifCond .le 7, 3) := by decide +kernel
theorem dL_tick_378 : decode cL_tick 378 = .ok (.iconst 1, 1) := by decide +kernel
theorem dL_tick_379 : decode cL_tick 379 = .ok (.goto 4, 3) := by decide +kernel
theorem dL_tick_382 : decode cL_tick 382 = .ok (.iconst 0, 1) := by decide +kernel
theorem dL_tick_383 : decode cL_tick 383 = .ok (.iadd, 1) := by decide +kernel
theorem dL_tick_384 : decode cL_tick 384 = .ok (.iastore, 1) := by decide +kernel
theorem dL_tick_385 : decode cL_tick 385 = .ok (.aload_n 0, 1) := by decide +kernel
theorem dL_tick_386 : decode cL_tick 386 = .ok (.bipush 15, 2) := by decide +kernel
theorem dL_tick_388 : decode cL_tick 388 = .ok (.iaload, 1) := by decide +kernel
theorem dL_tick_389 : decode cL_tick 389 = .ok (.ifCond .le 26, 3) := by decide +kernel
theorem dL_tick_392 : decode cL_tick 392 = .ok (.aload_n 0, 1) := by decide +kernel
theorem dL_tick_393 : decode cL_tick 393 = .ok (.bipush 16, 2) := by decide +kernel
theorem dL_tick_395 : decode cL_tick 395 = .ok (.iaload, 1) := by decide +kernel
theorem dL_tick_396 : decode cL_tick 396 = .ok (.iconst 1, 1) := by decide +kernel
theorem dL_tick_397 : decode cL_tick 397 = .ok (.if_icmp .ne 18, 3) := by decide +kernel
theorem dL_tick_400 : decode cL_tick 400 = .ok (.aload_n 1, 1) := by decide +kernel
theorem dL_tick_401 : decode cL_tick 401 = .ok (.iconst 0, 1) := by decide +kernel
theorem dL_tick_402 : decode cL_tick 402 = .ok (.bipush 11, 2) := by decide +kernel
theorem dL_tick_404 : decode cL_tick 404 = .ok (.invokestatic 9, 3) := by decide +kernel
theorem dL_tick_407 : decode cL_tick 407 = .ok (.ifCond .ne 8, 3) := by decide +kernel
theorem dL_tick_410 : decode cL_tick 410 = .ok (.aload_n 0, 1) := by decide +kernel
theorem dL_tick_411 : decode cL_tick 411 = .ok (.bipush 15, 2) := by decide +kernel
theorem dL_tick_413 : decode cL_tick 413 = .ok (.iconst 0, 1) := by decide +kernel
theorem dL_tick_414 : decode cL_tick 414 = .ok (.iastore, 1) := by decide +kernel
theorem dL_tick_415 : decode cL_tick 415 = .ok (.return_, 1) := by decide +kernel
theorem dL_runs_0 : decode cL_runs 0 = .ok (.iload 6, 2) := by decide +kernel
theorem dL_runs_2 : decode cL_runs 2 = .ok (.ifCond .ne 78, 3) := by decide +kernel
theorem dL_runs_5 : decode cL_runs 5 = .ok (.iconst 1, 1) := by decide +kernel
theorem dL_runs_6 : decode cL_runs 6 = .ok (.iload 7, 2) := by decide +kernel
theorem dL_runs_8 : decode cL_runs 8 = .ok (.iload 7, 2) := by decide +kernel
theorem dL_runs_10 : decode cL_runs 10 = .ok (.iconst 5, 1) := by decide +kernel
theorem dL_runs_11 : decode cL_runs 11 = .ok (.irem, 1) := by decide +kernel
theorem dL_runs_12 : decode cL_runs 12 = .ok (.ifCond .ne 8, 3) := by decide +kernel
theorem dL_runs_15 : decode cL_runs 15 = .ok (.bipush 60, 2) := by decide +kernel
theorem dL_runs_17 : decode cL_runs 17 = .ok (.goto 5, 3) := by decide +kernel
theorem dL_runs_20 : decode cL_runs 20 = .ok (.bipush 9, 2) := by decide +kernel
theorem dL_runs_22 : decode cL_runs 22 = .ok (.irem, 1) := by decide +kernel
theorem dL_runs_23 : decode cL_runs 23 = .ok (.iadd, 1) := by decide +kernel
theorem dL_runs_24 : decode cL_runs 24 = .ok (.istore 8, 2) := by decide +kernel
theorem dL_runs_26 : decode cL_runs 26 = .ok (.aload_n 1, 1) := by decide +kernel
theorem dL_runs_27 : decode cL_runs 27 = .ok (.bipush 11, 2) := by decide +kernel
theorem dL_runs_29 : decode cL_runs 29 = .ok (.iaload, 1) := by decide +kernel
theorem dL_runs_30 : decode cL_runs 30 = .ok (.istore 9, 2) := by decide +kernel
theorem dL_runs_32 : decode cL_runs 32 = .ok (.iconst 0, 1) := by decide +kernel
theorem dL_runs_33 : decode cL_runs 33 = .ok (.istore 10, 2) := by decide +kernel
theorem dL_runs_35 : decode cL_runs 35 = .ok (.iload 10, 2) := by decide +kernel
theorem dL_runs_37 : decode cL_runs 37 = .ok (.iload 8, 2) := by decide +kernel
theorem dL_runs_39 : decode cL_runs 39 = .ok (.if_icmp .ge 19, 3) := by decide +kernel
theorem dL_runs_42 : decode cL_runs 42 = .ok (.aload_n 1, 1) := by decide +kernel
theorem dL_runs_43 : decode cL_runs 43 = .ok (.aload_n 2, 1) := by decide +kernel
theorem dL_runs_44 : decode cL_runs 44 = .ok (.aload_n 3, 1) := by decide +kernel
theorem dL_runs_45 : decode cL_runs 45 = .ok (.aload 4, 2) := by decide +kernel
theorem dL_runs_47 : decode cL_runs 47 = .ok (.aload 5, 2) := by decide +kernel
theorem dL_runs_49 : decode cL_runs 49 = .ok (.invokestatic 19, 3) := by decide +kernel
theorem dL_runs_52 : decode cL_runs 52 = .ok (.iinc 10 1, 3) := by decide +kernel
theorem dL_runs_55 : decode cL_runs 55 = .ok (.goto (-20), 3) := by decide +kernel
theorem dL_runs_58 : decode cL_runs 58 = .ok (.aload_n 0, 1) := by decide +kernel
theorem dL_runs_59 : decode cL_runs 59 = .ok (.iload 8, 2) := by decide +kernel
theorem dL_runs_61 : decode cL_runs 61 = .ok (.invokevirtual 23, 3) := by decide +kernel
theorem dL_runs_64 : decode cL_runs 64 = .ok (.aload_n 1, 1) := by decide +kernel
theorem dL_runs_65 : decode cL_runs 65 = .ok (.bipush 11, 2) := by decide +kernel
theorem dL_runs_67 : decode cL_runs 67 = .ok (.iaload, 1) := by decide +kernel
theorem dL_runs_68 : decode cL_runs 68 = .ok (.iload 9, 2) := by decide +kernel
theorem dL_runs_70 : decode cL_runs 70 = .ok (.isub, 1) := by decide +kernel
theorem dL_runs_71 : decode cL_runs 71 = .ok (.if_icmp .ne 7, 3) := by decide +kernel
theorem dL_runs_74 : decode cL_runs 74 = .ok (.iconst 1, 1) := by decide +kernel
theorem dL_runs_75 : decode cL_runs 75 = .ok (.goto 4, 3) := by decide +kernel
theorem dL_runs_78 : decode cL_runs 78 = .ok (.iconst 0, 1) := by decide +kernel
theorem dL_runs_79 : decode cL_runs 79 = .ok (.ireturn, 1) := by decide +kernel
theorem dL_runs_80 : decode cL_runs 80 = .ok (.iload 6, 2) := by decide +kernel
theorem dL_runs_82 : decode cL_runs 82 = .ok (.iconst 1, 1) := by decide +kernel
theorem dL_runs_83 : decode cL_runs 83 = .ok (.if_icmp .ne 67, 3) := by decide +kernel
theorem dL_runs_86 : decode cL_runs 86 = .ok (.aload_n 1, 1) := by decide +kernel
theorem dL_runs_87 : decode cL_runs 87 = .ok (.bipush 15, 2) := by decide +kernel
theorem dL_runs_89 : decode cL_runs 89 = .ok (.iaload, 1) := by decide +kernel
theorem dL_runs_90 : decode cL_runs 90 = .ok (.ifCond .le 22, 3) := by decide +kernel
theorem dL_runs_93 : decode cL_runs 93 = .ok (.aload_n 0, 1) := by decide +kernel
theorem dL_runs_94 : decode cL_runs 94 = .ok (.iload 7, 2) := by decide +kernel
theorem dL_runs_96 : decode cL_runs 96 = .ok (.iconst 2, 1) := by decide +kernel
theorem dL_runs_97 : decode cL_runs 97 = .ok (.irem, 1) := by decide +kernel
theorem dL_runs_98 : decode cL_runs 98 = .ok (.invokevirtual 28, 3) := by decide +kernel
theorem dL_runs_101 : decode cL_runs 101 = .ok (.ldc 31, 2) := by decide +kernel
theorem dL_runs_103 : decode cL_runs 103 = .ok (.if_icmp .ne 7, 3) := by decide +kernel
theorem dL_runs_106 : decode cL_runs 106 = .ok (.iconst 1, 1) := by decide +kernel
theorem dL_runs_107 : decode cL_runs 107 = .ok (.goto 4, 3) := by decide +kernel
theorem dL_runs_110 : decode cL_runs 110 = .ok (.iconst 0, 1) := by decide +kernel
theorem dL_runs_111 : decode cL_runs 111 = .ok (.ireturn, 1) := by decide +kernel
theorem dL_runs_112 : decode cL_runs 112 = .ok (.aload_n 1, 1) := by decide +kernel
theorem dL_runs_113 : decode cL_runs 113 = .ok (.iconst 1, 1) := by decide +kernel
theorem dL_runs_114 : decode cL_runs 114 = .ok (.iaload, 1) := by decide +kernel
theorem dL_runs_115 : decode cL_runs 115 = .ok (.istore 8, 2) := by decide +kernel
theorem dL_runs_117 : decode cL_runs 117 = .ok (.aload_n 1, 1) := by decide +kernel
theorem dL_runs_118 : decode cL_runs 118 = .ok (.iconst 1, 1) := by decide +kernel
theorem dL_runs_119 : decode cL_runs 119 = .ok (.iload 7, 2) := by decide +kernel
theorem dL_runs_121 : decode cL_runs 121 = .ok (.iconst 3, 1) := by decide +kernel
theorem dL_runs_122 : decode cL_runs 122 = .ok (.irem, 1) := by decide +kernel
theorem dL_runs_123 : decode cL_runs 123 = .ok (.ifCond .le 7, 3) := by decide +kernel
theorem dL_runs_126 : decode cL_runs 126 = .ok (.iconst 1, 1) := by decide +kernel
theorem dL_runs_127 : decode cL_runs 127 = .ok (.goto 4, 3) := by decide +kernel
theorem dL_runs_130 : decode cL_runs 130 = .ok (.iconst 0, 1) := by decide +kernel
theorem dL_runs_131 : decode cL_runs 131 = .ok (.iastore, 1) := by decide +kernel
theorem dL_runs_132 : decode cL_runs 132 = .ok (.aload_n 0, 1) := by decide +kernel
theorem dL_runs_133 : decode cL_runs 133 = .ok (.aload_n 1, 1) := by decide +kernel
theorem dL_runs_134 : decode cL_runs 134 = .ok (.iconst 1, 1) := by decide +kernel
theorem dL_runs_135 : decode cL_runs 135 = .ok (.iaload, 1) := by decide +kernel
theorem dL_runs_136 : decode cL_runs 136 = .ok (.invokevirtual 28, 3) := by decide +kernel
theorem dL_runs_139 : decode cL_runs 139 = .ok (.iload 8, 2) := by decide +kernel
theorem dL_runs_141 : decode cL_runs 141 = .ok (.if_icmp .ne 7, 3) := by decide +kernel
theorem dL_runs_144 : decode cL_runs 144 = .ok (.iconst 1, 1) := by decide +kernel
theorem dL_runs_145 : decode cL_runs 145 = .ok (.goto 4, 3) := by decide +kernel
theorem dL_runs_148 : decode cL_runs 148 = .ok (.iconst 0, 1) := by decide +kernel
theorem dL_runs_149 : decode cL_runs 149 = .ok (.ireturn, 1) := by decide +kernel
theorem dL_runs_150 : decode cL_runs 150 = .ok (.iload 6, 2) := by decide +kernel
theorem dL_runs_152 : decode cL_runs 152 = .ok (.iconst 2, 1) := by decide +kernel
theorem dL_runs_153 : decode cL_runs 153 = .ok (.if_icmp .ne 103, 3) := by decide +kernel
theorem dL_runs_156 : decode cL_runs 156 = .ok (.aload_n 1, 1) := by decide +kernel
theorem dL_runs_157 : decode cL_runs 157 = .ok (.bipush 15, 2) := by decide +kernel
theorem dL_runs_159 : decode cL_runs 159 = .ok (.iaload, 1) := by decide +kernel
theorem dL_runs_160 : decode cL_runs 160 = .ok (.ifCond .gt 12, 3) := by decide +kernel
theorem dL_runs_163 : decode cL_runs 163 = .ok (.aload_n 1, 1) := by decide +kernel
theorem dL_runs_164 : decode cL_runs 164 = .ok (.bipush 12, 2) := by decide +kernel
theorem dL_runs_166 : decode cL_runs 166 = .ok (.iaload, 1) := by decide +kernel
theorem dL_runs_167 : decode cL_runs 167 = .ok (.bipush 8, 2) := by decide +kernel
theorem dL_runs_169 : decode cL_runs 169 = .ok (.if_icmp .ne 30, 3) := by decide +kernel
theorem dL_runs_172 : decode cL_runs 172 = .ok (.aload_n 0, 1) := by decide +kernel
theorem dL_runs_173 : decode cL_runs 173 = .ok (.invokevirtual 32, 3) := by decide +kernel
theorem dL_runs_176 : decode cL_runs 176 = .ok (.aload_n 1, 1) := by decide +kernel
theorem dL_runs_177 : decode cL_runs 177 = .ok (.bipush 15, 2) := by decide +kernel
theorem dL_runs_179 : decode cL_runs 179 = .ok (.iaload, 1) := by decide +kernel
theorem dL_runs_180 : decode cL_runs 180 = .ok (.ifCond .le 8, 3) := by decide +kernel
theorem dL_runs_183 : decode cL_runs 183 = .ok (.ldc 31, 2) := by decide +kernel
theorem dL_runs_185 : decode cL_runs 185 = .ok (.goto 5, 3) := by decide +kernel
theorem dL_runs_188 : decode cL_runs 188 = .ok (.ldc 36, 2) := by decide +kernel
theorem dL_runs_190 : decode cL_runs 190 = .ok (.if_icmp .ne 7, 3) := by decide +kernel
theorem dL_runs_193 : decode cL_runs 193 = .ok (.iconst 1, 1) := by decide +kernel
theorem dL_runs_194 : decode cL_runs 194 = .ok (.goto 4, 3) := by decide +kernel
theorem dL_runs_197 : decode cL_runs 197 = .ok (.iconst 0, 1) := by decide +kernel
theorem dL_runs_198 : decode cL_runs 198 = .ok (.ireturn, 1) := by decide +kernel
theorem dL_runs_199 : decode cL_runs 199 = .ok (.iconst 0, 1) := by decide +kernel
theorem dL_runs_200 : decode cL_runs 200 = .ok (.istore 8, 2) := by decide +kernel
theorem dL_runs_202 : decode cL_runs 202 = .ok (.iload 8, 2) := by decide +kernel
theorem dL_runs_204 : decode cL_runs 204 = .ok (.bipush 6, 2) := by decide +kernel
theorem dL_runs_206 : decode cL_runs 206 = .ok (.if_icmp .ge 23, 3) := by decide +kernel
theorem dL_runs_209 : decode cL_runs 209 = .ok (.aload 4, 2) := by decide +kernel
theorem dL_runs_211 : decode cL_runs 211 = .ok (.bipush 6, 2) := by decide +kernel
theorem dL_runs_213 : decode cL_runs 213 = .ok (.aload_n 1, 1) := by decide +kernel
theorem dL_runs_214 : decode cL_runs 214 = .ok (.bipush 12, 2) := by decide +kernel
theorem dL_runs_216 : decode cL_runs 216 = .ok (.iaload, 1) := by decide +kernel
theorem dL_runs_217 : decode cL_runs 217 = .ok (.imul, 1) := by decide +kernel
theorem dL_runs_218 : decode cL_runs 218 = .ok (.iload 8, 2) := by decide +kernel
theorem dL_runs_220 : decode cL_runs 220 = .ok (.iadd, 1) := by decide +kernel
theorem dL_runs_221 : decode cL_runs 221 = .ok (.iconst 0, 1) := by decide +kernel
theorem dL_runs_222 : decode cL_runs 222 = .ok (.iastore, 1) := by decide +kernel
theorem dL_runs_223 : decode cL_runs 223 = .ok (.iinc 8 1, 3) := by decide +kernel
theorem dL_runs_226 : decode cL_runs 226 = .ok (.goto (-24), 3) := by decide +kernel
theorem dL_runs_229 : decode cL_runs 229 = .ok (.aload_n 1, 1) := by decide +kernel
theorem dL_runs_230 : decode cL_runs 230 = .ok (.bipush 12, 2) := by decide +kernel
theorem dL_runs_232 : decode cL_runs 232 = .ok (.dup2, 1) := by decide +kernel
theorem dL_runs_233 : decode cL_runs 233 = .ok (.iaload, 1) := by decide +kernel
theorem dL_runs_234 : decode cL_runs 234 = .ok (.iconst 1, 1) := by decide +kernel
theorem dL_runs_235 : decode cL_runs 235 = .ok (.iadd, 1) := by decide +kernel
theorem dL_runs_236 : decode cL_runs 236 = .ok (.iastore, 1) := by decide +kernel
theorem dL_runs_237 : decode cL_runs 237 = .ok (.aload_n 0, 1) := by decide +kernel
theorem dL_runs_238 : decode cL_runs 238 = .ok (.invokevirtual 32, 3) := by decide +kernel
theorem dL_runs_241 : decode cL_runs 241 = .ok (.aload_n 1, 1) := by decide +kernel
theorem dL_runs_242 : decode cL_runs 242 = .ok (.bipush 12, 2) := by decide +kernel
theorem dL_runs_244 : decode cL_runs 244 = .ok (.iaload, 1) := by decide +kernel
theorem dL_runs_245 : decode cL_runs 245 = .ok (.iconst 1, 1) := by decide +kernel
theorem dL_runs_246 : decode cL_runs 246 = .ok (.isub, 1) := by decide +kernel
theorem dL_runs_247 : decode cL_runs 247 = .ok (.if_icmp .ne 7, 3) := by decide +kernel
theorem dL_runs_250 : decode cL_runs 250 = .ok (.iconst 1, 1) := by decide +kernel
theorem dL_runs_251 : decode cL_runs 251 = .ok (.goto 4, 3) := by decide +kernel
theorem dL_runs_254 : decode cL_runs 254 = .ok (.iconst 0, 1) := by decide +kernel
theorem dL_runs_255 : decode cL_runs 255 = .ok (.ireturn, 1) := by decide +kernel
theorem dL_runs_256 : decode cL_runs 256 = .ok (.iconst 1, 1) := by decide +kernel
theorem dL_runs_257 : decode cL_runs 257 = .ok (.iload 7, 2) := by decide +kernel
theorem dL_runs_259 : decode cL_runs 259 = .ok (.iload 7, 2) := by decide +kernel
theorem dL_runs_261 : decode cL_runs 261 = .ok (.iconst 4, 1) := by decide +kernel
theorem dL_runs_262 : decode cL_runs 262 = .ok (.irem, 1) := by decide +kernel
theorem dL_runs_263 : decode cL_runs 263 = .ok (.ifCond .ne 9, 3) := by decide +kernel
theorem dL_runs_266 : decode cL_runs 266 = .ok (.sipush 9999, 3) := by decide +kernel
theorem dL_runs_269 : decode cL_runs 269 = .ok (.goto 6, 3) := by decide +kernel
theorem dL_runs_272 : decode cL_runs 272 = .ok (.sipush 700, 3) := by decide +kernel
theorem dL_runs_275 : decode cL_runs 275 = .ok (.irem, 1) := by decide +kernel
theorem dL_runs_276 : decode cL_runs 276 = .ok (.iadd, 1) := by decide +kernel
theorem dL_runs_277 : decode cL_runs 277 = .ok (.istore 8, 2) := by decide +kernel
theorem dL_runs_279 : decode cL_runs 279 = .ok (.aload_n 1, 1) := by decide +kernel
theorem dL_runs_280 : decode cL_runs 280 = .ok (.bipush 15, 2) := by decide +kernel
theorem dL_runs_282 : decode cL_runs 282 = .ok (.iaload, 1) := by decide +kernel
theorem dL_runs_283 : decode cL_runs 283 = .ok (.ifCond .gt 10, 3) := by decide +kernel
theorem dL_runs_286 : decode cL_runs 286 = .ok (.aload_n 1, 1) := by decide +kernel
theorem dL_runs_287 : decode cL_runs 287 = .ok (.bipush 12, 2) := by decide +kernel
theorem dL_runs_289 : decode cL_runs 289 = .ok (.iaload, 1) := by decide +kernel
theorem dL_runs_290 : decode cL_runs 290 = .ok (.ifCond .ne 20, 3) := by decide +kernel
theorem dL_runs_293 : decode cL_runs 293 = .ok (.aload_n 0, 1) := by decide +kernel
theorem dL_runs_294 : decode cL_runs 294 = .ok (.iload 8, 2) := by decide +kernel
theorem dL_runs_296 : decode cL_runs 296 = .ok (.invokevirtual 37, 3) := by decide +kernel
theorem dL_runs_299 : decode cL_runs 299 = .ok (.ldc 31, 2) := by decide +kernel
theorem dL_runs_301 : decode cL_runs 301 = .ok (.if_icmp .ne 7, 3) := by decide +kernel
theorem dL_runs_304 : decode cL_runs 304 = .ok (.iconst 1, 1) := by decide +kernel
theorem dL_runs_305 : decode cL_runs 305 = .ok (.goto 4, 3) := by decide +kernel
theorem dL_runs_308 : decode cL_runs 308 = .ok (.iconst 0, 1) := by decide +kernel
theorem dL_runs_309 : decode cL_runs 309 = .ok (.ireturn, 1) := by decide +kernel
theorem dL_runs_310 : decode cL_runs 310 = .ok (.aload_n 1, 1) := by decide +kernel
theorem dL_runs_311 : decode cL_runs 311 = .ok (.bipush 15, 2) := by decide +kernel
theorem dL_runs_313 : decode cL_runs 313 = .ok (.iload 8, 2) := by decide +kernel
theorem dL_runs_315 : decode cL_runs 315 = .ok (.iastore, 1) := by decide +kernel
theorem dL_runs_316 : decode cL_runs 316 = .ok (.aload_n 1, 1) := by decide +kernel
theorem dL_runs_317 : decode cL_runs 317 = .ok (.bipush 16, 2) := by decide +kernel
theorem dL_runs_319 : decode cL_runs 319 = .ok (.iconst 0, 1) := by decide +kernel
theorem dL_runs_320 : decode cL_runs 320 = .ok (.iastore, 1) := by decide +kernel
theorem dL_runs_321 : decode cL_runs 321 = .ok (.aload_n 1, 1) := by decide +kernel
theorem dL_runs_322 : decode cL_runs 322 = .ok (.bipush 17, 2) := by decide +kernel
theorem dL_runs_324 : decode cL_runs 324 = .ok (.iconst 0, 1) := by decide +kernel
theorem dL_runs_325 : decode cL_runs 325 = .ok (.iastore, 1) := by decide +kernel
theorem dL_runs_326 : decode cL_runs 326 = .ok (.aload_n 1, 1) := by decide +kernel
theorem dL_runs_327 : decode cL_runs 327 = .ok (.iconst 1, 1) := by decide +kernel
theorem dL_runs_328 : decode cL_runs 328 = .ok (.iconst 0, 1) := by decide +kernel
theorem dL_runs_329 : decode cL_runs 329 = .ok (.iastore, 1) := by decide +kernel
theorem dL_runs_330 : decode cL_runs 330 = .ok (.aload_n 0, 1) := by decide +kernel
theorem dL_runs_331 : decode cL_runs 331 = .ok (.iload 8, 2) := by decide +kernel
theorem dL_runs_333 : decode cL_runs 333 = .ok (.invokevirtual 37, 3) := by decide +kernel
theorem dL_runs_336 : decode cL_runs 336 = .ok (.aload_n 2, 1) := by decide +kernel
theorem dL_runs_337 : decode cL_runs 337 = .ok (.iconst 0, 1) := by decide +kernel
theorem dL_runs_338 : decode cL_runs 338 = .ok (.bipush 11, 2) := by decide +kernel
theorem dL_runs_340 : decode cL_runs 340 = .ok (.invokestatic 9, 3) := by decide +kernel
theorem dL_runs_343 : decode cL_runs 343 = .ok (.if_icmp .ne 7, 3) := by decide +kernel
theorem dL_runs_346 : decode cL_runs 346 = .ok (.iconst 1, 1) := by decide +kernel
theorem dL_runs_347 : decode cL_runs 347 = .ok (.goto 4, 3) := by decide +kernel
theorem dL_runs_350 : decode cL_runs 350 = .ok (.iconst 0, 1) := by decide +kernel
theorem dL_runs_351 : decode cL_runs 351 = .ok (.ireturn, 1) := by decide +kernel
theorem dL_acts_0 : decode cL_acts 0 = .ok (.iload 6, 2) := by decide +kernel
theorem dL_acts_2 : decode cL_acts 2 = .ok (.iconst 5, 1) := by decide +kernel
theorem dL_acts_3 : decode cL_acts 3 = .ok (.ishr, 1) := by decide +kernel
theorem dL_acts_4 : decode cL_acts 4 = .ok (.ldc 40, 2) := by decide +kernel
theorem dL_acts_6 : decode cL_acts 6 = .ok (.invokestatic 41, 3) := by decide +kernel
theorem dL_acts_9 : decode cL_acts 9 = .ok (.istore 7, 2) := by decide +kernel
theorem dL_acts_11 : decode cL_acts 11 = .ok (.iload 6, 2) := by decide +kernel
theorem dL_acts_13 : decode cL_acts 13 = .ok (.bipush 26, 2) := by decide +kernel
theorem dL_acts_15 : decode cL_acts 15 = .ok (.invokestatic 41, 3) := by decide +kernel
theorem dL_acts_18 : decode cL_acts 18 = .ok (.istore 8, 2) := by decide +kernel
theorem dL_acts_20 : decode cL_acts 20 = .ok (.iload 8, 2) := by decide +kernel
theorem dL_acts_22 : decode cL_acts 22 = .ok (.bipush 14, 2) := by decide +kernel
theorem dL_acts_24 : decode cL_acts 24 = .ok (.if_icmp .ge 62, 3) := by decide +kernel
theorem dL_acts_27 : decode cL_acts 27 = .ok (.aload_n 0, 1) := by decide +kernel
theorem dL_acts_28 : decode cL_acts 28 = .ok (.aload_n 1, 1) := by decide +kernel
theorem dL_acts_29 : decode cL_acts 29 = .ok (.aload_n 2, 1) := by decide +kernel
theorem dL_acts_30 : decode cL_acts 30 = .ok (.aload_n 3, 1) := by decide +kernel
theorem dL_acts_31 : decode cL_acts 31 = .ok (.aload 4, 2) := by decide +kernel
theorem dL_acts_33 : decode cL_acts 33 = .ok (.aload 5, 2) := by decide +kernel
theorem dL_acts_35 : decode cL_acts 35 = .ok (.iload 8, 2) := by decide +kernel
theorem dL_acts_37 : decode cL_acts 37 = .ok (.bipush 8, 2) := by decide +kernel
theorem dL_acts_39 : decode cL_acts 39 = .ok (.if_icmp .ge 7, 3) := by decide +kernel
theorem dL_acts_42 : decode cL_acts 42 = .ok (.iconst 0, 1) := by decide +kernel
theorem dL_acts_43 : decode cL_acts 43 = .ok (.goto 37, 3) := by decide +kernel
theorem dL_acts_46 : decode cL_acts 46 = .ok (.iload 8, 2) := by decide +kernel
theorem dL_acts_48 : decode cL_acts 48 = .ok (.bipush 10, 2) := by decide +kernel
theorem dL_acts_50 : decode cL_acts 50 = .ok (.if_icmp .ge 7, 3) := by decide +kernel
theorem dL_acts_53 : decode cL_acts 53 = .ok (.iconst 1, 1) := by decide +kernel
theorem dL_acts_54 : decode cL_acts 54 = .ok (.goto 26, 3) := by decide +kernel
theorem dL_acts_57 : decode cL_acts 57 = .ok (.iload 8, 2) := by decide +kernel
theorem dL_acts_59 : decode cL_acts 59 = .ok (.bipush 10, 2) := by decide +kernel
theorem dL_acts_61 : decode cL_acts 61 = .ok (.if_icmp .ne 7, 3) := by decide +kernel
theorem dL_acts_64 : decode cL_acts 64 = .ok (.iconst 2, 1) := by decide +kernel
theorem dL_acts_65 : decode cL_acts 65 = .ok (.goto 15, 3) := by decide +kernel
theorem dL_acts_68 : decode cL_acts 68 = .ok (.iload 8, 2) := by decide +kernel
theorem dL_acts_70 : decode cL_acts 70 = .ok (.bipush 14, 2) := by decide +kernel
theorem dL_acts_72 : decode cL_acts 72 = .ok (.if_icmp .ge 7, 3) := by decide +kernel
theorem dL_acts_75 : decode cL_acts 75 = .ok (.iconst 3, 1) := by decide +kernel
theorem dL_acts_76 : decode cL_acts 76 = .ok (.goto 4, 3) := by decide +kernel
theorem dL_acts_79 : decode cL_acts 79 = .ok (.iconst 0, 1) := by decide +kernel
theorem dL_acts_80 : decode cL_acts 80 = .ok (.iload 7, 2) := by decide +kernel
theorem dL_acts_82 : decode cL_acts 82 = .ok (.invokestatic 45, 3) := by decide +kernel
theorem dL_acts_85 : decode cL_acts 85 = .ok (.ireturn, 1) := by decide +kernel
theorem dL_acts_86 : decode cL_acts 86 = .ok (.iload 8, 2) := by decide +kernel
theorem dL_acts_88 : decode cL_acts 88 = .ok (.bipush 18, 2) := by decide +kernel
theorem dL_acts_90 : decode cL_acts 90 = .ok (.if_icmp .ge 122, 3) := by decide +kernel
theorem dL_acts_93 : decode cL_acts 93 = .ok (.iload 7, 2) := by decide +kernel
theorem dL_acts_95 : decode cL_acts 95 = .ok (.iconst 4, 1) := by decide +kernel
theorem dL_acts_96 : decode cL_acts 96 = .ok (.irem, 1) := by decide +kernel
theorem dL_acts_97 : decode cL_acts 97 = .ok (.istore 9, 2) := by decide +kernel
theorem dL_acts_99 : decode cL_acts 99 = .ok (.iconst 1, 1) := by decide +kernel
theorem dL_acts_100 : decode cL_acts 100 = .ok (.iload 7, 2) := by decide +kernel
theorem dL_acts_102 : decode cL_acts 102 = .ok (.iconst 4, 1) := by decide +kernel
theorem dL_acts_103 : decode cL_acts 103 = .ok (.idiv, 1) := by decide +kernel
theorem dL_acts_104 : decode cL_acts 104 = .ok (.iload 7, 2) := by decide +kernel
theorem dL_acts_106 : decode cL_acts 106 = .ok (.iconst 5, 1) := by decide +kernel
theorem dL_acts_107 : decode cL_acts 107 = .ok (.irem, 1) := by decide +kernel
theorem dL_acts_108 : decode cL_acts 108 = .ok (.ifCond .ne 9, 3) := by decide +kernel
theorem dL_acts_111 : decode cL_acts 111 = .ok (.sipush 9999, 3) := by decide +kernel
theorem dL_acts_114 : decode cL_acts 114 = .ok (.goto 6, 3) := by decide +kernel
theorem dL_acts_117 : decode cL_acts 117 = .ok (.sipush 400, 3) := by decide +kernel
theorem dL_acts_120 : decode cL_acts 120 = .ok (.irem, 1) := by decide +kernel
theorem dL_acts_121 : decode cL_acts 121 = .ok (.iadd, 1) := by decide +kernel
theorem dL_acts_122 : decode cL_acts 122 = .ok (.istore 10, 2) := by decide +kernel
theorem dL_acts_124 : decode cL_acts 124 = .ok (.aload_n 1, 1) := by decide +kernel
theorem dL_acts_125 : decode cL_acts 125 = .ok (.bipush 13, 2) := by decide +kernel
theorem dL_acts_127 : decode cL_acts 127 = .ok (.iaload, 1) := by decide +kernel
theorem dL_acts_128 : decode cL_acts 128 = .ok (.bipush 6, 2) := by decide +kernel
theorem dL_acts_130 : decode cL_acts 130 = .ok (.if_icmp .ne 22, 3) := by decide +kernel
theorem dL_acts_133 : decode cL_acts 133 = .ok (.aload_n 0, 1) := by decide +kernel
theorem dL_acts_134 : decode cL_acts 134 = .ok (.iload 9, 2) := by decide +kernel
theorem dL_acts_136 : decode cL_acts 136 = .ok (.iload 10, 2) := by decide +kernel
theorem dL_acts_138 : decode cL_acts 138 = .ok (.invokevirtual 49, 3) := by decide +kernel
theorem dL_acts_141 : decode cL_acts 141 = .ok (.ldc 36, 2) := by decide +kernel
theorem dL_acts_143 : decode cL_acts 143 = .ok (.if_icmp .ne 7, 3) := by decide +kernel
theorem dL_acts_146 : decode cL_acts 146 = .ok (.iconst 1, 1) := by decide +kernel
theorem dL_acts_147 : decode cL_acts 147 = .ok (.goto 4, 3) := by decide +kernel
