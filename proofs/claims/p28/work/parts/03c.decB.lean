theorem dL_acts_150 : decode cL_acts 150 = .ok (.iconst 0, 1) := by decide +kernel
theorem dL_acts_151 : decode cL_acts 151 = .ok (.ireturn, 1) := by decide +kernel
theorem dL_acts_152 : decode cL_acts 152 = .ok (.aload_n 3, 1) := by decide +kernel
theorem dL_acts_153 : decode cL_acts 153 = .ok (.iconst 2, 1) := by decide +kernel
theorem dL_acts_154 : decode cL_acts 154 = .ok (.aload_n 1, 1) := by decide +kernel
theorem dL_acts_155 : decode cL_acts 155 = .ok (.bipush 13, 2) := by decide +kernel
theorem dL_acts_157 : decode cL_acts 157 = .ok (.iaload, 1) := by decide +kernel
theorem dL_acts_158 : decode cL_acts 158 = .ok (.imul, 1) := by decide +kernel
theorem dL_acts_159 : decode cL_acts 159 = .ok (.iload 9, 2) := by decide +kernel
theorem dL_acts_161 : decode cL_acts 161 = .ok (.iastore, 1) := by decide +kernel
theorem dL_acts_162 : decode cL_acts 162 = .ok (.aload_n 3, 1) := by decide +kernel
theorem dL_acts_163 : decode cL_acts 163 = .ok (.iconst 2, 1) := by decide +kernel
theorem dL_acts_164 : decode cL_acts 164 = .ok (.aload_n 1, 1) := by decide +kernel
theorem dL_acts_165 : decode cL_acts 165 = .ok (.bipush 13, 2) := by decide +kernel
theorem dL_acts_167 : decode cL_acts 167 = .ok (.iaload, 1) := by decide +kernel
theorem dL_acts_168 : decode cL_acts 168 = .ok (.imul, 1) := by decide +kernel
theorem dL_acts_169 : decode cL_acts 169 = .ok (.iconst 1, 1) := by decide +kernel
theorem dL_acts_170 : decode cL_acts 170 = .ok (.iadd, 1) := by decide +kernel
theorem dL_acts_171 : decode cL_acts 171 = .ok (.iload 10, 2) := by decide +kernel
theorem dL_acts_173 : decode cL_acts 173 = .ok (.iastore, 1) := by decide +kernel
theorem dL_acts_174 : decode cL_acts 174 = .ok (.aload_n 1, 1) := by decide +kernel
theorem dL_acts_175 : decode cL_acts 175 = .ok (.bipush 13, 2) := by decide +kernel
theorem dL_acts_177 : decode cL_acts 177 = .ok (.dup2, 1) := by decide +kernel
theorem dL_acts_178 : decode cL_acts 178 = .ok (.iaload, 1) := by decide +kernel
theorem dL_acts_179 : decode cL_acts 179 = .ok (.iconst 1, 1) := by decide +kernel
theorem dL_acts_180 : decode cL_acts 180 = .ok (.iadd, 1) := by decide +kernel
theorem dL_acts_181 : decode cL_acts 181 = .ok (.iastore, 1) := by decide +kernel
theorem dL_acts_182 : decode cL_acts 182 = .ok (.aload_n 1, 1) := by decide +kernel
theorem dL_acts_183 : decode cL_acts 183 = .ok (.bipush 9, 2) := by decide +kernel
theorem dL_acts_185 : decode cL_acts 185 = .ok (.dup2, 1) := by decide +kernel
theorem dL_acts_186 : decode cL_acts 186 = .ok (.iaload, 1) := by decide +kernel
theorem dL_acts_187 : decode cL_acts 187 = .ok (.iload 10, 2) := by decide +kernel
theorem dL_acts_189 : decode cL_acts 189 = .ok (.iadd, 1) := by decide +kernel
theorem dL_acts_190 : decode cL_acts 190 = .ok (.iastore, 1) := by decide +kernel
theorem dL_acts_191 : decode cL_acts 191 = .ok (.aload_n 0, 1) := by decide +kernel
theorem dL_acts_192 : decode cL_acts 192 = .ok (.iload 9, 2) := by decide +kernel
theorem dL_acts_194 : decode cL_acts 194 = .ok (.iload 10, 2) := by decide +kernel
theorem dL_acts_196 : decode cL_acts 196 = .ok (.invokevirtual 49, 3) := by decide +kernel
theorem dL_acts_199 : decode cL_acts 199 = .ok (.aload_n 1, 1) := by decide +kernel
theorem dL_acts_200 : decode cL_acts 200 = .ok (.bipush 13, 2) := by decide +kernel
theorem dL_acts_202 : decode cL_acts 202 = .ok (.iaload, 1) := by decide +kernel
theorem dL_acts_203 : decode cL_acts 203 = .ok (.if_icmp .ne 7, 3) := by decide +kernel
theorem dL_acts_206 : decode cL_acts 206 = .ok (.iconst 1, 1) := by decide +kernel
theorem dL_acts_207 : decode cL_acts 207 = .ok (.goto 4, 3) := by decide +kernel
theorem dL_acts_210 : decode cL_acts 210 = .ok (.iconst 0, 1) := by decide +kernel
theorem dL_acts_211 : decode cL_acts 211 = .ok (.ireturn, 1) := by decide +kernel
theorem dL_acts_212 : decode cL_acts 212 = .ok (.iload 8, 2) := by decide +kernel
theorem dL_acts_214 : decode cL_acts 214 = .ok (.bipush 18, 2) := by decide +kernel
theorem dL_acts_216 : decode cL_acts 216 = .ok (.if_icmp .ne 35, 3) := by decide +kernel
theorem dL_acts_219 : decode cL_acts 219 = .ok (.aload_n 1, 1) := by decide +kernel
theorem dL_acts_220 : decode cL_acts 220 = .ok (.iconst 0, 1) := by decide +kernel
theorem dL_acts_221 : decode cL_acts 221 = .ok (.iaload, 1) := by decide +kernel
theorem dL_acts_222 : decode cL_acts 222 = .ok (.istore 9, 2) := by decide +kernel
theorem dL_acts_224 : decode cL_acts 224 = .ok (.aload_n 1, 1) := by decide +kernel
theorem dL_acts_225 : decode cL_acts 225 = .ok (.iconst 0, 1) := by decide +kernel
theorem dL_acts_226 : decode cL_acts 226 = .ok (.iload 7, 2) := by decide +kernel
theorem dL_acts_228 : decode cL_acts 228 = .ok (.sipush 201, 3) := by decide +kernel
theorem dL_acts_231 : decode cL_acts 231 = .ok (.irem, 1) := by decide +kernel
theorem dL_acts_232 : decode cL_acts 232 = .ok (.iastore, 1) := by decide +kernel
theorem dL_acts_233 : decode cL_acts 233 = .ok (.aload_n 0, 1) := by decide +kernel
theorem dL_acts_234 : decode cL_acts 234 = .ok (.aload_n 1, 1) := by decide +kernel
theorem dL_acts_235 : decode cL_acts 235 = .ok (.iconst 0, 1) := by decide +kernel
theorem dL_acts_236 : decode cL_acts 236 = .ok (.iaload, 1) := by decide +kernel
theorem dL_acts_237 : decode cL_acts 237 = .ok (.invokevirtual 52, 3) := by decide +kernel
theorem dL_acts_240 : decode cL_acts 240 = .ok (.iload 9, 2) := by decide +kernel
theorem dL_acts_242 : decode cL_acts 242 = .ok (.if_icmp .ne 7, 3) := by decide +kernel
theorem dL_acts_245 : decode cL_acts 245 = .ok (.iconst 1, 1) := by decide +kernel
theorem dL_acts_246 : decode cL_acts 246 = .ok (.goto 4, 3) := by decide +kernel
theorem dL_acts_249 : decode cL_acts 249 = .ok (.iconst 0, 1) := by decide +kernel
theorem dL_acts_250 : decode cL_acts 250 = .ok (.ireturn, 1) := by decide +kernel
theorem dL_acts_251 : decode cL_acts 251 = .ok (.iload 8, 2) := by decide +kernel
theorem dL_acts_253 : decode cL_acts 253 = .ok (.bipush 21, 2) := by decide +kernel
theorem dL_acts_255 : decode cL_acts 255 = .ok (.if_icmp .ge 73, 3) := by decide +kernel
theorem dL_acts_258 : decode cL_acts 258 = .ok (.aload_n 1, 1) := by decide +kernel
theorem dL_acts_259 : decode cL_acts 259 = .ok (.bipush 8, 2) := by decide +kernel
theorem dL_acts_261 : decode cL_acts 261 = .ok (.iaload, 1) := by decide +kernel
theorem dL_acts_262 : decode cL_acts 262 = .ok (.iconst 4, 1) := by decide +kernel
theorem dL_acts_263 : decode cL_acts 263 = .ok (.if_icmp .ge 28, 3) := by decide +kernel
theorem dL_acts_266 : decode cL_acts 266 = .ok (.aload_n 2, 1) := by decide +kernel
theorem dL_acts_267 : decode cL_acts 267 = .ok (.iconst 4, 1) := by decide +kernel
theorem dL_acts_268 : decode cL_acts 268 = .ok (.bipush 7, 2) := by decide +kernel
theorem dL_acts_270 : decode cL_acts 270 = .ok (.invokestatic 9, 3) := by decide +kernel
theorem dL_acts_273 : decode cL_acts 273 = .ok (.ifCond .le 18, 3) := by decide +kernel
theorem dL_acts_276 : decode cL_acts 276 = .ok (.aload_n 0, 1) := by decide +kernel
theorem dL_acts_277 : decode cL_acts 277 = .ok (.invokevirtual 55, 3) := by decide +kernel
theorem dL_acts_280 : decode cL_acts 280 = .ok (.ldc 31, 2) := by decide +kernel
theorem dL_acts_282 : decode cL_acts 282 = .ok (.if_icmp .ne 7, 3) := by decide +kernel
theorem dL_acts_285 : decode cL_acts 285 = .ok (.iconst 1, 1) := by decide +kernel
theorem dL_acts_286 : decode cL_acts 286 = .ok (.goto 4, 3) := by decide +kernel
theorem dL_acts_289 : decode cL_acts 289 = .ok (.iconst 0, 1) := by decide +kernel
theorem dL_acts_290 : decode cL_acts 290 = .ok (.ireturn, 1) := by decide +kernel
theorem dL_acts_291 : decode cL_acts 291 = .ok (.aload_n 1, 1) := by decide +kernel
theorem dL_acts_292 : decode cL_acts 292 = .ok (.iconst 4, 1) := by decide +kernel
theorem dL_acts_293 : decode cL_acts 293 = .ok (.iaload, 1) := by decide +kernel
theorem dL_acts_294 : decode cL_acts 294 = .ok (.istore 9, 2) := by decide +kernel
theorem dL_acts_296 : decode cL_acts 296 = .ok (.aload_n 1, 1) := by decide +kernel
theorem dL_acts_297 : decode cL_acts 297 = .ok (.iconst 4, 1) := by decide +kernel
theorem dL_acts_298 : decode cL_acts 298 = .ok (.aload_n 2, 1) := by decide +kernel
theorem dL_acts_299 : decode cL_acts 299 = .ok (.iconst 4, 1) := by decide +kernel
theorem dL_acts_300 : decode cL_acts 300 = .ok (.bipush 7, 2) := by decide +kernel
theorem dL_acts_302 : decode cL_acts 302 = .ok (.invokestatic 9, 3) := by decide +kernel
theorem dL_acts_305 : decode cL_acts 305 = .ok (.aload_n 1, 1) := by decide +kernel
theorem dL_acts_306 : decode cL_acts 306 = .ok (.iconst 3, 1) := by decide +kernel
theorem dL_acts_307 : decode cL_acts 307 = .ok (.iaload, 1) := by decide +kernel
theorem dL_acts_308 : decode cL_acts 308 = .ok (.iadd, 1) := by decide +kernel
theorem dL_acts_309 : decode cL_acts 309 = .ok (.iastore, 1) := by decide +kernel
theorem dL_acts_310 : decode cL_acts 310 = .ok (.aload_n 0, 1) := by decide +kernel
theorem dL_acts_311 : decode cL_acts 311 = .ok (.invokevirtual 55, 3) := by decide +kernel
theorem dL_acts_314 : decode cL_acts 314 = .ok (.iload 9, 2) := by decide +kernel
theorem dL_acts_316 : decode cL_acts 316 = .ok (.ldc 58, 2) := by decide +kernel
theorem dL_acts_318 : decode cL_acts 318 = .ok (.iadd, 1) := by decide +kernel
theorem dL_acts_319 : decode cL_acts 319 = .ok (.if_icmp .ne 7, 3) := by decide +kernel
theorem dL_acts_322 : decode cL_acts 322 = .ok (.iconst 1, 1) := by decide +kernel
theorem dL_acts_323 : decode cL_acts 323 = .ok (.goto 4, 3) := by decide +kernel
theorem dL_acts_326 : decode cL_acts 326 = .ok (.iconst 0, 1) := by decide +kernel
theorem dL_acts_327 : decode cL_acts 327 = .ok (.ireturn, 1) := by decide +kernel
theorem dL_acts_328 : decode cL_acts 328 = .ok (.iload 8, 2) := by decide +kernel
theorem dL_acts_330 : decode cL_acts 330 = .ok (.bipush 21, 2) := by decide +kernel
theorem dL_acts_332 : decode cL_acts 332 = .ok (.if_icmp .ne 186, 3) := by decide +kernel
theorem dL_acts_335 : decode cL_acts 335 = .ok (.aload_n 1, 1) := by decide +kernel
theorem dL_acts_336 : decode cL_acts 336 = .ok (.bipush 12, 2) := by decide +kernel
theorem dL_acts_338 : decode cL_acts 338 = .ok (.iaload, 1) := by decide +kernel
theorem dL_acts_339 : decode cL_acts 339 = .ok (.ifCond .ne 7, 3) := by decide +kernel
theorem dL_acts_342 : decode cL_acts 342 = .ok (.iconst 0, 1) := by decide +kernel
theorem dL_acts_343 : decode cL_acts 343 = .ok (.goto 10, 3) := by decide +kernel
theorem dL_acts_346 : decode cL_acts 346 = .ok (.iload 7, 2) := by decide +kernel
theorem dL_acts_348 : decode cL_acts 348 = .ok (.aload_n 1, 1) := by decide +kernel
theorem dL_acts_349 : decode cL_acts 349 = .ok (.bipush 12, 2) := by decide +kernel
theorem dL_acts_351 : decode cL_acts 351 = .ok (.iaload, 1) := by decide +kernel
theorem dL_acts_352 : decode cL_acts 352 = .ok (.irem, 1) := by decide +kernel
theorem dL_acts_353 : decode cL_acts 353 = .ok (.istore 9, 2) := by decide +kernel
theorem dL_acts_355 : decode cL_acts 355 = .ok (.aload_n 1, 1) := by decide +kernel
theorem dL_acts_356 : decode cL_acts 356 = .ok (.bipush 12, 2) := by decide +kernel
theorem dL_acts_358 : decode cL_acts 358 = .ok (.iaload, 1) := by decide +kernel
theorem dL_acts_359 : decode cL_acts 359 = .ok (.ifCond .ne 19, 3) := by decide +kernel
theorem dL_acts_362 : decode cL_acts 362 = .ok (.aload_n 0, 1) := by decide +kernel
theorem dL_acts_363 : decode cL_acts 363 = .ok (.iconst 0, 1) := by decide +kernel
theorem dL_acts_364 : decode cL_acts 364 = .ok (.invokevirtual 59, 3) := by decide +kernel
theorem dL_acts_367 : decode cL_acts 367 = .ok (.ldc 62, 2) := by decide +kernel
theorem dL_acts_369 : decode cL_acts 369 = .ok (.if_icmp .ne 7, 3) := by decide +kernel
theorem dL_acts_372 : decode cL_acts 372 = .ok (.iconst 1, 1) := by decide +kernel
theorem dL_acts_373 : decode cL_acts 373 = .ok (.goto 4, 3) := by decide +kernel
theorem dL_acts_376 : decode cL_acts 376 = .ok (.iconst 0, 1) := by decide +kernel
theorem dL_acts_377 : decode cL_acts 377 = .ok (.ireturn, 1) := by decide +kernel
theorem dL_acts_378 : decode cL_acts 378 = .ok (.aload 4, 2) := by decide +kernel
theorem dL_acts_380 : decode cL_acts 380 = .ok (.bipush 6, 2) := by decide +kernel
theorem dL_acts_382 : decode cL_acts 382 = .ok (.iload 9, 2) := by decide +kernel
theorem dL_acts_384 : decode cL_acts 384 = .ok (.imul, 1) := by decide +kernel
theorem dL_acts_385 : decode cL_acts 385 = .ok (.iconst 4, 1) := by decide +kernel
theorem dL_acts_386 : decode cL_acts 386 = .ok (.iadd, 1) := by decide +kernel
theorem dL_acts_387 : decode cL_acts 387 = .ok (.iaload, 1) := by decide +kernel
theorem dL_acts_388 : decode cL_acts 388 = .ok (.istore 10, 2) := by decide +kernel
theorem dL_acts_390 : decode cL_acts 390 = .ok (.aload 4, 2) := by decide +kernel
theorem dL_acts_392 : decode cL_acts 392 = .ok (.bipush 6, 2) := by decide +kernel
theorem dL_acts_394 : decode cL_acts 394 = .ok (.iload 9, 2) := by decide +kernel
theorem dL_acts_396 : decode cL_acts 396 = .ok (.imul, 1) := by decide +kernel
theorem dL_acts_397 : decode cL_acts 397 = .ok (.iaload, 1) := by decide +kernel
theorem dL_acts_398 : decode cL_acts 398 = .ok (.aload 4, 2) := by decide +kernel
theorem dL_acts_400 : decode cL_acts 400 = .ok (.bipush 6, 2) := by decide +kernel
theorem dL_acts_402 : decode cL_acts 402 = .ok (.iload 9, 2) := by decide +kernel
theorem dL_acts_404 : decode cL_acts 404 = .ok (.imul, 1) := by decide +kernel
theorem dL_acts_405 : decode cL_acts 405 = .ok (.iconst 1, 1) := by decide +kernel
theorem dL_acts_406 : decode cL_acts 406 = .ok (.iadd, 1) := by decide +kernel
theorem dL_acts_407 : decode cL_acts 407 = .ok (.iaload, 1) := by decide +kernel
theorem dL_acts_408 : decode cL_acts 408 = .ok (.iadd, 1) := by decide +kernel
theorem dL_acts_409 : decode cL_acts 409 = .ok (.aload 4, 2) := by decide +kernel
theorem dL_acts_411 : decode cL_acts 411 = .ok (.bipush 6, 2) := by decide +kernel
theorem dL_acts_413 : decode cL_acts 413 = .ok (.iload 9, 2) := by decide +kernel
theorem dL_acts_415 : decode cL_acts 415 = .ok (.imul, 1) := by decide +kernel
theorem dL_acts_416 : decode cL_acts 416 = .ok (.iconst 2, 1) := by decide +kernel
theorem dL_acts_417 : decode cL_acts 417 = .ok (.iadd, 1) := by decide +kernel
theorem dL_acts_418 : decode cL_acts 418 = .ok (.iaload, 1) := by decide +kernel
theorem dL_acts_419 : decode cL_acts 419 = .ok (.iadd, 1) := by decide +kernel
theorem dL_acts_420 : decode cL_acts 420 = .ok (.aload 4, 2) := by decide +kernel
theorem dL_acts_422 : decode cL_acts 422 = .ok (.bipush 6, 2) := by decide +kernel
theorem dL_acts_424 : decode cL_acts 424 = .ok (.iload 9, 2) := by decide +kernel
theorem dL_acts_426 : decode cL_acts 426 = .ok (.imul, 1) := by decide +kernel
theorem dL_acts_427 : decode cL_acts 427 = .ok (.iconst 3, 1) := by decide +kernel
theorem dL_acts_428 : decode cL_acts 428 = .ok (.iadd, 1) := by decide +kernel
theorem dL_acts_429 : decode cL_acts 429 = .ok (.iaload, 1) := by decide +kernel
theorem dL_acts_430 : decode cL_acts 430 = .ok (.iadd, 1) := by decide +kernel
theorem dL_acts_431 : decode cL_acts 431 = .ok (.istore 11, 2) := by decide +kernel
theorem dL_acts_433 : decode cL_acts 433 = .ok (.iload 10, 2) := by decide +kernel
theorem dL_acts_435 : decode cL_acts 435 = .ok (.ifCond .le 17, 3) := by decide +kernel
theorem dL_acts_438 : decode cL_acts 438 = .ok (.ldc2_w 63, 3) := by decide +kernel
theorem dL_acts_441 : decode cL_acts 441 = .ok (.iload 11, 2) := by decide +kernel
theorem dL_acts_443 : decode cL_acts 443 = .ok (.i2l, 1) := by decide +kernel
theorem dL_acts_444 : decode cL_acts 444 = .ok (.lmul, 1) := by decide +kernel
theorem dL_acts_445 : decode cL_acts 445 = .ok (.iload 10, 2) := by decide +kernel
theorem dL_acts_447 : decode cL_acts 447 = .ok (.i2l, 1) := by decide +kernel
theorem dL_acts_448 : decode cL_acts 448 = .ok (.ldiv, 1) := by decide +kernel
theorem dL_acts_449 : decode cL_acts 449 = .ok (.goto 6, 3) := by decide +kernel
theorem dL_acts_452 : decode cL_acts 452 = .ok (.ldc2_w 65, 3) := by decide +kernel
theorem dL_acts_455 : decode cL_acts 455 = .ok (.lstore 12, 2) := by decide +kernel
theorem dL_acts_457 : decode cL_acts 457 = .ok (.lload 12, 2) := by decide +kernel
theorem dL_acts_459 : decode cL_acts 459 = .ok (.ldc2_w 67, 3) := by decide +kernel
theorem dL_acts_462 : decode cL_acts 462 = .ok (.lcmp, 1) := by decide +kernel
theorem dL_acts_463 : decode cL_acts 463 = .ok (.ifCond .lt 12, 3) := by decide +kernel
theorem dL_acts_466 : decode cL_acts 466 = .ok (.lload 12, 2) := by decide +kernel
theorem dL_acts_468 : decode cL_acts 468 = .ok (.ldc2_w 69, 3) := by decide +kernel
