/-! the law's own methods: what stands in the bytes -/
theorem dL_sound_205 : decode cL_sound 205 = .ok (.aload_n 0, 1) := by decide +kernel
theorem dL_sound_206 : decode cL_sound 206 = .ok (.iload 6, 2) := by decide +kernel
theorem dL_sound_208 : decode cL_sound 208 = .ok (.iload 8, 2) := by decide +kernel
theorem dL_sound_210 : decode cL_sound 210 = .ok (.invokestatic 65, 3) := by decide +kernel
theorem dL_sound_213 : decode cL_sound 213 = .ok (.if_icmp .ne 26, 3) := by decide +kernel
theorem dL_sound_216 : decode cL_sound 216 = .ok (.iload 8, 2) := by decide +kernel
theorem dL_sound_218 : decode cL_sound 218 = .ok (.ifCond .ge 23, 3) := by decide +kernel
theorem dL_sound_221 : decode cL_sound 221 = .ok (.aload_n 0, 1) := by decide +kernel
theorem dL_sound_222 : decode cL_sound 222 = .ok (.iload 6, 2) := by decide +kernel
theorem dL_sound_224 : decode cL_sound 224 = .ok (.iconst 1, 1) := by decide +kernel
theorem dL_sound_225 : decode cL_sound 225 = .ok (.invokevirtual 50, 3) := by decide +kernel
theorem dL_sound_228 : decode cL_sound 228 = .ok (.iload 7, 2) := by decide +kernel
theorem dL_sound_230 : decode cL_sound 230 = .ok (.if_icmp .ne 9, 3) := by decide +kernel
theorem dL_sound_233 : decode cL_sound 233 = .ok (.iload 5, 2) := by decide +kernel
theorem dL_sound_235 : decode cL_sound 235 = .ok (.iconst 1, 1) := by decide +kernel
theorem dL_sound_236 : decode cL_sound 236 = .ok (.if_icmp .eq 5, 3) := by decide +kernel
theorem dL_sound_239 : decode cL_sound 239 = .ok (.iconst 0, 1) := by decide +kernel
theorem dL_sound_240 : decode cL_sound 240 = .ok (.ireturn, 1) := by decide +kernel
theorem dL_sound_241 : decode cL_sound 241 = .ok (.iload 5, 2) := by decide +kernel
theorem dL_sound_243 : decode cL_sound 243 = .ok (.ifCond .ne 15, 3) := by decide +kernel
theorem dL_sound_246 : decode cL_sound 246 = .ok (.iload 8, 2) := by decide +kernel
theorem dL_sound_248 : decode cL_sound 248 = .ok (.aload_n 0, 1) := by decide +kernel
theorem dL_sound_249 : decode cL_sound 249 = .ok (.iconst 3, 1) := by decide +kernel
theorem dL_sound_250 : decode cL_sound 250 = .ok (.invokevirtual 62, 3) := by decide +kernel
theorem dL_sound_253 : decode cL_sound 253 = .ok (.if_icmp .le 5, 3) := by decide +kernel
theorem dL_sound_256 : decode cL_sound 256 = .ok (.iconst 0, 1) := by decide +kernel
theorem dL_sound_257 : decode cL_sound 257 = .ok (.ireturn, 1) := by decide +kernel
theorem dL_sound_258 : decode cL_sound 258 = .ok (.iload_n 2, 1) := by decide +kernel
theorem dL_sound_259 : decode cL_sound 259 = .ok (.aload_n 0, 1) := by decide +kernel
theorem dL_sound_260 : decode cL_sound 260 = .ok (.iload 6, 2) := by decide +kernel
theorem dL_sound_262 : decode cL_sound 262 = .ok (.iconst 3, 1) := by decide +kernel
theorem dL_sound_263 : decode cL_sound 263 = .ok (.invokevirtual 50, 3) := by decide +kernel
theorem dL_sound_266 : decode cL_sound 266 = .ok (.iadd, 1) := by decide +kernel
theorem dL_sound_267 : decode cL_sound 267 = .ok (.istore_n 2, 1) := by decide +kernel
theorem dL_sound_268 : decode cL_sound 268 = .ok (.iload_n 3, 1) := by decide +kernel
theorem dL_sound_269 : decode cL_sound 269 = .ok (.aload_n 0, 1) := by decide +kernel
theorem dL_sound_270 : decode cL_sound 270 = .ok (.iload 6, 2) := by decide +kernel
theorem dL_sound_272 : decode cL_sound 272 = .ok (.iconst 4, 1) := by decide +kernel
theorem dL_sound_273 : decode cL_sound 273 = .ok (.invokevirtual 50, 3) := by decide +kernel
theorem dL_sound_276 : decode cL_sound 276 = .ok (.iadd, 1) := by decide +kernel
theorem dL_sound_277 : decode cL_sound 277 = .ok (.istore_n 3, 1) := by decide +kernel
theorem dL_sound_278 : decode cL_sound 278 = .ok (.iload 4, 2) := by decide +kernel
theorem dL_sound_280 : decode cL_sound 280 = .ok (.aload_n 0, 1) := by decide +kernel
theorem dL_sound_281 : decode cL_sound 281 = .ok (.iload 6, 2) := by decide +kernel
theorem dL_sound_283 : decode cL_sound 283 = .ok (.iconst 5, 1) := by decide +kernel
theorem dL_sound_284 : decode cL_sound 284 = .ok (.invokevirtual 50, 3) := by decide +kernel
theorem dL_sound_287 : decode cL_sound 287 = .ok (.iadd, 1) := by decide +kernel
theorem dL_sound_288 : decode cL_sound 288 = .ok (.istore 4, 2) := by decide +kernel
theorem dL_sound_290 : decode cL_sound 290 = .ok (.iinc 6 1, 3) := by decide +kernel
theorem dL_sound_293 : decode cL_sound 293 = .ok (.goto (-274), 3) := by decide +kernel
theorem dL_sound_296 : decode cL_sound 296 = .ok (.aload_n 0, 1) := by decide +kernel
theorem dL_sound_297 : decode cL_sound 297 = .ok (.iconst 0, 1) := by decide +kernel
theorem dL_sound_298 : decode cL_sound 298 = .ok (.invokevirtual 62, 3) := by decide +kernel
theorem dL_sound_301 : decode cL_sound 301 = .ok (.iload_n 1, 1) := by decide +kernel
theorem dL_sound_302 : decode cL_sound 302 = .ok (.if_icmp .ne 20, 3) := by decide +kernel
theorem dL_sound_305 : decode cL_sound 305 = .ok (.aload_n 0, 1) := by decide +kernel
theorem dL_sound_306 : decode cL_sound 306 = .ok (.iconst 1, 1) := by decide +kernel
theorem dL_sound_307 : decode cL_sound 307 = .ok (.invokevirtual 62, 3) := by decide +kernel
theorem dL_sound_310 : decode cL_sound 310 = .ok (.ifCond .lt 12, 3) := by decide +kernel
theorem dL_sound_313 : decode cL_sound 313 = .ok (.aload_n 0, 1) := by decide +kernel
theorem dL_sound_314 : decode cL_sound 314 = .ok (.iconst 1, 1) := by decide +kernel
theorem dL_sound_315 : decode cL_sound 315 = .ok (.invokevirtual 62, 3) := by decide +kernel
theorem dL_sound_318 : decode cL_sound 318 = .ok (.iconst 4, 1) := by decide +kernel
theorem dL_sound_319 : decode cL_sound 319 = .ok (.if_icmp .le 5, 3) := by decide +kernel
theorem dL_sound_322 : decode cL_sound 322 = .ok (.iconst 0, 1) := by decide +kernel
theorem dL_sound_323 : decode cL_sound 323 = .ok (.ireturn, 1) := by decide +kernel
theorem dL_sound_324 : decode cL_sound 324 = .ok (.iload 5, 2) := by decide +kernel
theorem dL_sound_326 : decode cL_sound 326 = .ok (.ifCond .ge 48, 3) := by decide +kernel
theorem dL_sound_329 : decode cL_sound 329 = .ok (.aload_n 0, 1) := by decide +kernel
theorem dL_sound_330 : decode cL_sound 330 = .ok (.bipush 7, 2) := by decide +kernel
theorem dL_sound_332 : decode cL_sound 332 = .ok (.invokevirtual 58, 3) := by decide +kernel
theorem dL_sound_335 : decode cL_sound 335 = .ok (.bipush (-6), 2) := by decide +kernel
theorem dL_sound_337 : decode cL_sound 337 = .ok (.if_icmp .ne 35, 3) := by decide +kernel
theorem dL_sound_340 : decode cL_sound 340 = .ok (.aload_n 0, 1) := by decide +kernel
theorem dL_sound_341 : decode cL_sound 341 = .ok (.invokevirtual 88, 3) := by decide +kernel
theorem dL_sound_344 : decode cL_sound 344 = .ok (.bipush (-5), 2) := by decide +kernel
theorem dL_sound_346 : decode cL_sound 346 = .ok (.if_icmp .ne 26, 3) := by decide +kernel
theorem dL_sound_349 : decode cL_sound 349 = .ok (.aload_n 0, 1) := by decide +kernel
theorem dL_sound_350 : decode cL_sound 350 = .ok (.invokevirtual 91, 3) := by decide +kernel
theorem dL_sound_353 : decode cL_sound 353 = .ok (.bipush (-5), 2) := by decide +kernel
theorem dL_sound_355 : decode cL_sound 355 = .ok (.if_icmp .ne 17, 3) := by decide +kernel
theorem dL_sound_358 : decode cL_sound 358 = .ok (.aload_n 0, 1) := by decide +kernel
theorem dL_sound_359 : decode cL_sound 359 = .ok (.iconst 0, 1) := by decide +kernel
theorem dL_sound_360 : decode cL_sound 360 = .ok (.iconst 0, 1) := by decide +kernel
theorem dL_sound_361 : decode cL_sound 361 = .ok (.invokevirtual 99, 3) := by decide +kernel
theorem dL_sound_364 : decode cL_sound 364 = .ok (.iconst (-1), 1) := by decide +kernel
theorem dL_sound_365 : decode cL_sound 365 = .ok (.if_icmp .ne 7, 3) := by decide +kernel
theorem dL_sound_368 : decode cL_sound 368 = .ok (.iconst 1, 1) := by decide +kernel
theorem dL_sound_369 : decode cL_sound 369 = .ok (.goto 4, 3) := by decide +kernel
theorem dL_sound_372 : decode cL_sound 372 = .ok (.iconst 0, 1) := by decide +kernel
theorem dL_sound_373 : decode cL_sound 373 = .ok (.ireturn, 1) := by decide +kernel
theorem dL_sound_374 : decode cL_sound 374 = .ok (.iconst 0, 1) := by decide +kernel
theorem dL_sound_375 : decode cL_sound 375 = .ok (.istore 6, 2) := by decide +kernel
theorem dL_sound_377 : decode cL_sound 377 = .ok (.iconst 0, 1) := by decide +kernel
theorem dL_sound_378 : decode cL_sound 378 = .ok (.istore 7, 2) := by decide +kernel
theorem dL_sound_380 : decode cL_sound 380 = .ok (.iload 7, 2) := by decide +kernel
theorem dL_sound_382 : decode cL_sound 382 = .ok (.aload_n 0, 1) := by decide +kernel
theorem dL_sound_383 : decode cL_sound 383 = .ok (.iconst 3, 1) := by decide +kernel
theorem dL_sound_384 : decode cL_sound 384 = .ok (.invokevirtual 58, 3) := by decide +kernel
theorem dL_sound_387 : decode cL_sound 387 = .ok (.if_icmp .ge 62, 3) := by decide +kernel
theorem dL_sound_390 : decode cL_sound 390 = .ok (.iload 6, 2) := by decide +kernel
theorem dL_sound_392 : decode cL_sound 392 = .ok (.aload_n 0, 1) := by decide +kernel
theorem dL_sound_393 : decode cL_sound 393 = .ok (.iload 7, 2) := by decide +kernel
theorem dL_sound_395 : decode cL_sound 395 = .ok (.iconst 1, 1) := by decide +kernel
theorem dL_sound_396 : decode cL_sound 396 = .ok (.invokevirtual 99, 3) := by decide +kernel
theorem dL_sound_399 : decode cL_sound 399 = .ok (.iadd, 1) := by decide +kernel
theorem dL_sound_400 : decode cL_sound 400 = .ok (.istore 6, 2) := by decide +kernel
theorem dL_sound_402 : decode cL_sound 402 = .ok (.iload 7, 2) := by decide +kernel
theorem dL_sound_404 : decode cL_sound 404 = .ok (.ifCond .le 22, 3) := by decide +kernel
theorem dL_sound_407 : decode cL_sound 407 = .ok (.aload_n 0, 1) := by decide +kernel
