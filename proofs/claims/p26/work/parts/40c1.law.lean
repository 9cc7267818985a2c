/-! the law's own methods: what stands in the bytes -/
theorem dL_leap_201 : decode cL_leap 201 = .ok (.iconst 1, 1) := by decide +kernel
theorem dL_leap_202 : decode cL_leap 202 = .ok (.istore 17, 2) := by decide +kernel
theorem dL_leap_204 : decode cL_leap 204 = .ok (.iload 16, 2) := by decide +kernel
theorem dL_leap_206 : decode cL_leap 206 = .ok (.iload 8, 2) := by decide +kernel
theorem dL_leap_208 : decode cL_leap 208 = .ok (.if_icmp .ne 53, 3) := by decide +kernel
theorem dL_leap_211 : decode cL_leap 211 = .ok (.iload 7, 2) := by decide +kernel
theorem dL_leap_213 : decode cL_leap 213 = .ok (.iload 17, 2) := by decide +kernel
theorem dL_leap_215 : decode cL_leap 215 = .ok (.iadd, 1) := by decide +kernel
theorem dL_leap_216 : decode cL_leap 216 = .ok (.iload 8, 2) := by decide +kernel
theorem dL_leap_218 : decode cL_leap 218 = .ok (.if_icmp .ge 43, 3) := by decide +kernel
theorem dL_leap_221 : decode cL_leap 221 = .ok (.iinc 14 1, 3) := by decide +kernel
theorem dL_leap_224 : decode cL_leap 224 = .ok (.iload 7, 2) := by decide +kernel
theorem dL_leap_226 : decode cL_leap 226 = .ok (.iload 17, 2) := by decide +kernel
theorem dL_leap_228 : decode cL_leap 228 = .ok (.iadd, 1) := by decide +kernel
theorem dL_leap_229 : decode cL_leap 229 = .ok (.iload 9, 2) := by decide +kernel
theorem dL_leap_231 : decode cL_leap 231 = .ok (.if_icmp .ge 13, 3) := by decide +kernel
theorem dL_leap_234 : decode cL_leap 234 = .ok (.iload 7, 2) := by decide +kernel
theorem dL_leap_236 : decode cL_leap 236 = .ok (.iload 17, 2) := by decide +kernel
theorem dL_leap_238 : decode cL_leap 238 = .ok (.iadd, 1) := by decide +kernel
theorem dL_leap_239 : decode cL_leap 239 = .ok (.istore 15, 2) := by decide +kernel
theorem dL_leap_241 : decode cL_leap 241 = .ok (.goto 10, 3) := by decide +kernel
theorem dL_leap_244 : decode cL_leap 244 = .ok (.iload 7, 2) := by decide +kernel
theorem dL_leap_246 : decode cL_leap 246 = .ok (.iload 17, 2) := by decide +kernel
theorem dL_leap_248 : decode cL_leap 248 = .ok (.iadd, 1) := by decide +kernel
theorem dL_leap_249 : decode cL_leap 249 = .ok (.istore 16, 2) := by decide +kernel
theorem dL_leap_251 : decode cL_leap 251 = .ok (.iload 17, 2) := by decide +kernel
theorem dL_leap_253 : decode cL_leap 253 = .ok (.iload 17, 2) := by decide +kernel
theorem dL_leap_255 : decode cL_leap 255 = .ok (.iadd, 1) := by decide +kernel
theorem dL_leap_256 : decode cL_leap 256 = .ok (.istore 17, 2) := by decide +kernel
theorem dL_leap_258 : decode cL_leap 258 = .ok (.goto (-54), 3) := by decide +kernel
theorem dL_leap_261 : decode cL_leap 261 = .ok (.iload 16, 2) := by decide +kernel
theorem dL_leap_263 : decode cL_leap 263 = .ok (.iload 15, 2) := by decide +kernel
theorem dL_leap_265 : decode cL_leap 265 = .ok (.isub, 1) := by decide +kernel
theorem dL_leap_266 : decode cL_leap 266 = .ok (.iconst 1, 1) := by decide +kernel
theorem dL_leap_267 : decode cL_leap 267 = .ok (.if_icmp .le 42, 3) := by decide +kernel
theorem dL_leap_270 : decode cL_leap 270 = .ok (.iinc 14 1, 3) := by decide +kernel
theorem dL_leap_273 : decode cL_leap 273 = .ok (.iload 15, 2) := by decide +kernel
theorem dL_leap_275 : decode cL_leap 275 = .ok (.iload 16, 2) := by decide +kernel
theorem dL_leap_277 : decode cL_leap 277 = .ok (.iadd, 1) := by decide +kernel
theorem dL_leap_278 : decode cL_leap 278 = .ok (.iconst 2, 1) := by decide +kernel
theorem dL_leap_279 : decode cL_leap 279 = .ok (.idiv, 1) := by decide +kernel
theorem dL_leap_280 : decode cL_leap 280 = .ok (.iload 9, 2) := by decide +kernel
theorem dL_leap_282 : decode cL_leap 282 = .ok (.if_icmp .ge 15, 3) := by decide +kernel
theorem dL_leap_285 : decode cL_leap 285 = .ok (.iload 15, 2) := by decide +kernel
theorem dL_leap_287 : decode cL_leap 287 = .ok (.iload 16, 2) := by decide +kernel
theorem dL_leap_289 : decode cL_leap 289 = .ok (.iadd, 1) := by decide +kernel
theorem dL_leap_290 : decode cL_leap 290 = .ok (.iconst 2, 1) := by decide +kernel
theorem dL_leap_291 : decode cL_leap 291 = .ok (.idiv, 1) := by decide +kernel
theorem dL_leap_292 : decode cL_leap 292 = .ok (.istore 15, 2) := by decide +kernel
theorem dL_leap_294 : decode cL_leap 294 = .ok (.goto (-33), 3) := by decide +kernel
theorem dL_leap_297 : decode cL_leap 297 = .ok (.iload 15, 2) := by decide +kernel
theorem dL_leap_299 : decode cL_leap 299 = .ok (.iload 16, 2) := by decide +kernel
theorem dL_leap_301 : decode cL_leap 301 = .ok (.iadd, 1) := by decide +kernel
theorem dL_leap_302 : decode cL_leap 302 = .ok (.iconst 2, 1) := by decide +kernel
theorem dL_leap_303 : decode cL_leap 303 = .ok (.idiv, 1) := by decide +kernel
theorem dL_leap_304 : decode cL_leap 304 = .ok (.istore 16, 2) := by decide +kernel
theorem dL_leap_306 : decode cL_leap 306 = .ok (.goto (-45), 3) := by decide +kernel
theorem dL_leap_309 : decode cL_leap 309 = .ok (.aload_n 0, 1) := by decide +kernel
theorem dL_leap_310 : decode cL_leap 310 = .ok (.invokevirtual 88, 3) := by decide +kernel
theorem dL_leap_313 : decode cL_leap 313 = .ok (.iload 6, 2) := by decide +kernel
theorem dL_leap_315 : decode cL_leap 315 = .ok (.if_icmp .ne 62, 3) := by decide +kernel
theorem dL_leap_318 : decode cL_leap 318 = .ok (.aload_n 0, 1) := by decide +kernel
theorem dL_leap_319 : decode cL_leap 319 = .ok (.iload 6, 2) := by decide +kernel
theorem dL_leap_321 : decode cL_leap 321 = .ok (.iconst 1, 1) := by decide +kernel
theorem dL_leap_322 : decode cL_leap 322 = .ok (.invokevirtual 50, 3) := by decide +kernel
theorem dL_leap_325 : decode cL_leap 325 = .ok (.iload 9, 2) := by decide +kernel
theorem dL_leap_327 : decode cL_leap 327 = .ok (.if_icmp .ne 50, 3) := by decide +kernel
theorem dL_leap_330 : decode cL_leap 330 = .ok (.aload_n 0, 1) := by decide +kernel
theorem dL_leap_331 : decode cL_leap 331 = .ok (.iload 6, 2) := by decide +kernel
theorem dL_leap_333 : decode cL_leap 333 = .ok (.iconst 3, 1) := by decide +kernel
theorem dL_leap_334 : decode cL_leap 334 = .ok (.invokevirtual 50, 3) := by decide +kernel
theorem dL_leap_337 : decode cL_leap 337 = .ok (.iload 11, 2) := by decide +kernel
theorem dL_leap_339 : decode cL_leap 339 = .ok (.iconst 1, 1) := by decide +kernel
theorem dL_leap_340 : decode cL_leap 340 = .ok (.iadd, 1) := by decide +kernel
theorem dL_leap_341 : decode cL_leap 341 = .ok (.if_icmp .ne 36, 3) := by decide +kernel
theorem dL_leap_344 : decode cL_leap 344 = .ok (.aload_n 0, 1) := by decide +kernel
theorem dL_leap_345 : decode cL_leap 345 = .ok (.iload 6, 2) := by decide +kernel
theorem dL_leap_347 : decode cL_leap 347 = .ok (.iconst 4, 1) := by decide +kernel
theorem dL_leap_348 : decode cL_leap 348 = .ok (.invokevirtual 50, 3) := by decide +kernel
theorem dL_leap_351 : decode cL_leap 351 = .ok (.iload 10, 2) := by decide +kernel
theorem dL_leap_353 : decode cL_leap 353 = .ok (.iload 14, 2) := by decide +kernel
theorem dL_leap_355 : decode cL_leap 355 = .ok (.iadd, 1) := by decide +kernel
theorem dL_leap_356 : decode cL_leap 356 = .ok (.if_icmp .ne 21, 3) := by decide +kernel
theorem dL_leap_359 : decode cL_leap 359 = .ok (.aload_n 0, 1) := by decide +kernel
theorem dL_leap_360 : decode cL_leap 360 = .ok (.iconst 2, 1) := by decide +kernel
theorem dL_leap_361 : decode cL_leap 361 = .ok (.invokevirtual 58, 3) := by decide +kernel
theorem dL_leap_364 : decode cL_leap 364 = .ok (.iload_n 1, 1) := by decide +kernel
theorem dL_leap_365 : decode cL_leap 365 = .ok (.iload 5, 2) := by decide +kernel
theorem dL_leap_367 : decode cL_leap 367 = .ok (.iconst 1, 1) := by decide +kernel
theorem dL_leap_368 : decode cL_leap 368 = .ok (.iadd, 1) := by decide +kernel
theorem dL_leap_369 : decode cL_leap 369 = .ok (.iconst 3, 1) := by decide +kernel
theorem dL_leap_370 : decode cL_leap 370 = .ok (.irem, 1) := by decide +kernel
theorem dL_leap_371 : decode cL_leap 371 = .ok (.invokestatic 85, 3) := by decide +kernel
theorem dL_leap_374 : decode cL_leap 374 = .ok (.if_icmp .eq 5, 3) := by decide +kernel
theorem dL_leap_377 : decode cL_leap 377 = .ok (.iconst 0, 1) := by decide +kernel
theorem dL_leap_378 : decode cL_leap 378 = .ok (.ireturn, 1) := by decide +kernel
theorem dL_leap_379 : decode cL_leap 379 = .ok (.aload_n 0, 1) := by decide +kernel
theorem dL_leap_380 : decode cL_leap 380 = .ok (.iload 6, 2) := by decide +kernel
theorem dL_leap_382 : decode cL_leap 382 = .ok (.iconst 2, 1) := by decide +kernel
theorem dL_leap_383 : decode cL_leap 383 = .ok (.invokevirtual 50, 3) := by decide +kernel
theorem dL_leap_386 : decode cL_leap 386 = .ok (.istore 15, 2) := by decide +kernel
theorem dL_leap_388 : decode cL_leap 388 = .ok (.iload 15, 2) := by decide +kernel
theorem dL_leap_390 : decode cL_leap 390 = .ok (.ifCond .lt 34, 3) := by decide +kernel
theorem dL_leap_393 : decode cL_leap 393 = .ok (.aload_n 0, 1) := by decide +kernel
theorem dL_leap_394 : decode cL_leap 394 = .ok (.iload 6, 2) := by decide +kernel
theorem dL_leap_396 : decode cL_leap 396 = .ok (.bipush 6, 2) := by decide +kernel
theorem dL_leap_398 : decode cL_leap 398 = .ok (.invokevirtual 50, 3) := by decide +kernel
theorem dL_leap_401 : decode cL_leap 401 = .ok (.iload 15, 2) := by decide +kernel
theorem dL_leap_403 : decode cL_leap 403 = .ok (.iload 12, 2) := by decide +kernel
theorem dL_leap_405 : decode cL_leap 405 = .ok (.isub, 1) := by decide +kernel
