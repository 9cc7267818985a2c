/-! the law's own methods: what stands in the bytes -/
theorem dL_comes_208 : decode cL_comes 208 = .ok (.istore 11, 2) := by decide +kernel
theorem dL_comes_210 : decode cL_comes 210 = .ok (.iconst 0, 1) := by decide +kernel
theorem dL_comes_211 : decode cL_comes 211 = .ok (.istore 12, 2) := by decide +kernel
theorem dL_comes_213 : decode cL_comes 213 = .ok (.iload 12, 2) := by decide +kernel
theorem dL_comes_215 : decode cL_comes 215 = .ok (.bipush 18, 2) := by decide +kernel
theorem dL_comes_217 : decode cL_comes 217 = .ok (.if_icmp .ge 46, 3) := by decide +kernel
theorem dL_comes_220 : decode cL_comes 220 = .ok (.aload_n 0, 1) := by decide +kernel
theorem dL_comes_221 : decode cL_comes 221 = .ok (.iload 12, 2) := by decide +kernel
theorem dL_comes_223 : decode cL_comes 223 = .ok (.bipush 6, 2) := by decide +kernel
theorem dL_comes_225 : decode cL_comes 225 = .ok (.idiv, 1) := by decide +kernel
theorem dL_comes_226 : decode cL_comes 226 = .ok (.iload 12, 2) := by decide +kernel
theorem dL_comes_228 : decode cL_comes 228 = .ok (.bipush 6, 2) := by decide +kernel
theorem dL_comes_230 : decode cL_comes 230 = .ok (.irem, 1) := by decide +kernel
theorem dL_comes_231 : decode cL_comes 231 = .ok (.iconst 1, 1) := by decide +kernel
theorem dL_comes_232 : decode cL_comes 232 = .ok (.invokevirtual 129, 3) := by decide +kernel
theorem dL_comes_235 : decode cL_comes 235 = .ok (.istore 13, 2) := by decide +kernel
theorem dL_comes_237 : decode cL_comes 237 = .ok (.iload 10, 2) := by decide +kernel
theorem dL_comes_239 : decode cL_comes 239 = .ok (.ifCond .lt 10, 3) := by decide +kernel
theorem dL_comes_242 : decode cL_comes 242 = .ok (.iload 13, 2) := by decide +kernel
theorem dL_comes_244 : decode cL_comes 244 = .ok (.iload 11, 2) := by decide +kernel
theorem dL_comes_246 : decode cL_comes 246 = .ok (.if_icmp .ge 11, 3) := by decide +kernel
theorem dL_comes_249 : decode cL_comes 249 = .ok (.iload 12, 2) := by decide +kernel
theorem dL_comes_251 : decode cL_comes 251 = .ok (.istore 10, 2) := by decide +kernel
theorem dL_comes_253 : decode cL_comes 253 = .ok (.iload 13, 2) := by decide +kernel
theorem dL_comes_255 : decode cL_comes 255 = .ok (.istore 11, 2) := by decide +kernel
theorem dL_comes_257 : decode cL_comes 257 = .ok (.iinc 12 1, 3) := by decide +kernel
theorem dL_comes_260 : decode cL_comes 260 = .ok (.goto (-47), 3) := by decide +kernel
theorem dL_comes_263 : decode cL_comes 263 = .ok (.aload_n 0, 1) := by decide +kernel
theorem dL_comes_264 : decode cL_comes 264 = .ok (.iconst 0, 1) := by decide +kernel
theorem dL_comes_265 : decode cL_comes 265 = .ok (.invokevirtual 132, 3) := by decide +kernel
theorem dL_comes_268 : decode cL_comes 268 = .ok (.iload 10, 2) := by decide +kernel
theorem dL_comes_270 : decode cL_comes 270 = .ok (.bipush 6, 2) := by decide +kernel
theorem dL_comes_272 : decode cL_comes 272 = .ok (.idiv, 1) := by decide +kernel
theorem dL_comes_273 : decode cL_comes 273 = .ok (.if_icmp .ne 26, 3) := by decide +kernel
theorem dL_comes_276 : decode cL_comes 276 = .ok (.aload_n 0, 1) := by decide +kernel
theorem dL_comes_277 : decode cL_comes 277 = .ok (.iconst 1, 1) := by decide +kernel
theorem dL_comes_278 : decode cL_comes 278 = .ok (.invokevirtual 132, 3) := by decide +kernel
theorem dL_comes_281 : decode cL_comes 281 = .ok (.iload 10, 2) := by decide +kernel
theorem dL_comes_283 : decode cL_comes 283 = .ok (.bipush 6, 2) := by decide +kernel
theorem dL_comes_285 : decode cL_comes 285 = .ok (.irem, 1) := by decide +kernel
theorem dL_comes_286 : decode cL_comes 286 = .ok (.if_icmp .ne 13, 3) := by decide +kernel
theorem dL_comes_289 : decode cL_comes 289 = .ok (.aload_n 0, 1) := by decide +kernel
theorem dL_comes_290 : decode cL_comes 290 = .ok (.iconst 2, 1) := by decide +kernel
theorem dL_comes_291 : decode cL_comes 291 = .ok (.invokevirtual 132, 3) := by decide +kernel
theorem dL_comes_294 : decode cL_comes 294 = .ok (.iload 11, 2) := by decide +kernel
theorem dL_comes_296 : decode cL_comes 296 = .ok (.if_icmp .eq 5, 3) := by decide +kernel
theorem dL_comes_299 : decode cL_comes 299 = .ok (.iconst 0, 1) := by decide +kernel
theorem dL_comes_300 : decode cL_comes 300 = .ok (.ireturn, 1) := by decide +kernel
theorem dL_comes_301 : decode cL_comes 301 = .ok (.iload_n 2, 1) := by decide +kernel
theorem dL_comes_302 : decode cL_comes 302 = .ok (.iconst 3, 1) := by decide +kernel
theorem dL_comes_303 : decode cL_comes 303 = .ok (.invokestatic 22, 3) := by decide +kernel
theorem dL_comes_306 : decode cL_comes 306 = .ok (.istore 12, 2) := by decide +kernel
theorem dL_comes_308 : decode cL_comes 308 = .ok (.iload_n 2, 1) := by decide +kernel
theorem dL_comes_309 : decode cL_comes 309 = .ok (.iconst 2, 1) := by decide +kernel
theorem dL_comes_310 : decode cL_comes 310 = .ok (.ishr, 1) := by decide +kernel
theorem dL_comes_311 : decode cL_comes 311 = .ok (.bipush 6, 2) := by decide +kernel
theorem dL_comes_313 : decode cL_comes 313 = .ok (.invokestatic 22, 3) := by decide +kernel
theorem dL_comes_316 : decode cL_comes 316 = .ok (.istore 13, 2) := by decide +kernel
theorem dL_comes_318 : decode cL_comes 318 = .ok (.aload_n 0, 1) := by decide +kernel
theorem dL_comes_319 : decode cL_comes 319 = .ok (.iload 12, 2) := by decide +kernel
theorem dL_comes_321 : decode cL_comes 321 = .ok (.iload 13, 2) := by decide +kernel
theorem dL_comes_323 : decode cL_comes 323 = .ok (.iconst 0, 1) := by decide +kernel
theorem dL_comes_324 : decode cL_comes 324 = .ok (.invokevirtual 129, 3) := by decide +kernel
theorem dL_comes_327 : decode cL_comes 327 = .ok (.istore 14, 2) := by decide +kernel
theorem dL_comes_329 : decode cL_comes 329 = .ok (.aload_n 0, 1) := by decide +kernel
theorem dL_comes_330 : decode cL_comes 330 = .ok (.iload 12, 2) := by decide +kernel
theorem dL_comes_332 : decode cL_comes 332 = .ok (.iload 13, 2) := by decide +kernel
theorem dL_comes_334 : decode cL_comes 334 = .ok (.iconst 1, 1) := by decide +kernel
theorem dL_comes_335 : decode cL_comes 335 = .ok (.invokevirtual 129, 3) := by decide +kernel
theorem dL_comes_338 : decode cL_comes 338 = .ok (.istore 15, 2) := by decide +kernel
theorem dL_comes_340 : decode cL_comes 340 = .ok (.aload_n 0, 1) := by decide +kernel
theorem dL_comes_341 : decode cL_comes 341 = .ok (.iconst 2, 1) := by decide +kernel
theorem dL_comes_342 : decode cL_comes 342 = .ok (.iload 12, 2) := by decide +kernel
theorem dL_comes_344 : decode cL_comes 344 = .ok (.invokevirtual 26, 3) := by decide +kernel
theorem dL_comes_347 : decode cL_comes 347 = .ok (.ifCond .lt 20, 3) := by decide +kernel
theorem dL_comes_350 : decode cL_comes 350 = .ok (.aload_n 0, 1) := by decide +kernel
theorem dL_comes_351 : decode cL_comes 351 = .ok (.iconst 3, 1) := by decide +kernel
theorem dL_comes_352 : decode cL_comes 352 = .ok (.iload 13, 2) := by decide +kernel
theorem dL_comes_354 : decode cL_comes 354 = .ok (.invokevirtual 26, 3) := by decide +kernel
theorem dL_comes_357 : decode cL_comes 357 = .ok (.ifCond .lt 10, 3) := by decide +kernel
theorem dL_comes_360 : decode cL_comes 360 = .ok (.aload_n 0, 1) := by decide +kernel
theorem dL_comes_361 : decode cL_comes 361 = .ok (.invokevirtual 82, 3) := by decide +kernel
theorem dL_comes_364 : decode cL_comes 364 = .ok (.ifCond .ge 5, 3) := by decide +kernel
theorem dL_comes_367 : decode cL_comes 367 = .ok (.iconst 0, 1) := by decide +kernel
theorem dL_comes_368 : decode cL_comes 368 = .ok (.ireturn, 1) := by decide +kernel
theorem dL_comes_369 : decode cL_comes 369 = .ok (.aload_n 0, 1) := by decide +kernel
theorem dL_comes_370 : decode cL_comes 370 = .ok (.iconst 0, 1) := by decide +kernel
theorem dL_comes_371 : decode cL_comes 371 = .ok (.invokevirtual 58, 3) := by decide +kernel
theorem dL_comes_374 : decode cL_comes 374 = .ok (.iconst 1, 1) := by decide +kernel
theorem dL_comes_375 : decode cL_comes 375 = .ok (.if_icmp .ne 7, 3) := by decide +kernel
theorem dL_comes_378 : decode cL_comes 378 = .ok (.iconst 1, 1) := by decide +kernel
theorem dL_comes_379 : decode cL_comes 379 = .ok (.goto 4, 3) := by decide +kernel
theorem dL_comes_382 : decode cL_comes 382 = .ok (.iconst 0, 1) := by decide +kernel
theorem dL_comes_383 : decode cL_comes 383 = .ok (.istore 16, 2) := by decide +kernel
theorem dL_comes_385 : decode cL_comes 385 = .ok (.iload 16, 2) := by decide +kernel
theorem dL_comes_387 : decode cL_comes 387 = .ok (.ifCond .eq 11, 3) := by decide +kernel
theorem dL_comes_390 : decode cL_comes 390 = .ok (.iload 14, 2) := by decide +kernel
theorem dL_comes_392 : decode cL_comes 392 = .ok (.ifCond .eq 17, 3) := by decide +kernel
theorem dL_comes_395 : decode cL_comes 395 = .ok (.goto 12, 3) := by decide +kernel
theorem dL_comes_398 : decode cL_comes 398 = .ok (.aload_n 0, 1) := by decide +kernel
theorem dL_comes_399 : decode cL_comes 399 = .ok (.invokevirtual 91, 3) := by decide +kernel
theorem dL_comes_402 : decode cL_comes 402 = .ok (.iload 14, 2) := by decide +kernel
theorem dL_comes_404 : decode cL_comes 404 = .ok (.if_icmp .eq 5, 3) := by decide +kernel
theorem dL_comes_407 : decode cL_comes 407 = .ok (.iconst 0, 1) := by decide +kernel
theorem dL_comes_408 : decode cL_comes 408 = .ok (.ireturn, 1) := by decide +kernel
theorem dL_comes_409 : decode cL_comes 409 = .ok (.aload_n 0, 1) := by decide +kernel
theorem dL_comes_410 : decode cL_comes 410 = .ok (.iconst 5, 1) := by decide +kernel
theorem dL_comes_411 : decode cL_comes 411 = .ok (.invokevirtual 58, 3) := by decide +kernel
theorem dL_comes_414 : decode cL_comes 414 = .ok (.iload 14, 2) := by decide +kernel
theorem dL_comes_416 : decode cL_comes 416 = .ok (.if_icmp .ne 43, 3) := by decide +kernel
