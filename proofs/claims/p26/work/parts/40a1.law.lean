/-! the law's own methods: what stands in the bytes -/
theorem dL_refused_198 : decode cL_refused 198 = .ok (.aload_n 0, 1) := by decide +kernel
theorem dL_refused_199 : decode cL_refused 199 = .ok (.iconst 0, 1) := by decide +kernel
theorem dL_refused_200 : decode cL_refused 200 = .ok (.iload_n 2, 1) := by decide +kernel
theorem dL_refused_201 : decode cL_refused 201 = .ok (.iconst 0, 1) := by decide +kernel
theorem dL_refused_202 : decode cL_refused 202 = .ok (.invokevirtual 55, 3) := by decide +kernel
theorem dL_refused_205 : decode cL_refused 205 = .ok (.iconst (-1), 1) := by decide +kernel
theorem dL_refused_206 : decode cL_refused 206 = .ok (.if_icmp .ne 181, 3) := by decide +kernel
theorem dL_refused_209 : decode cL_refused 209 = .ok (.aload_n 0, 1) := by decide +kernel
theorem dL_refused_210 : decode cL_refused 210 = .ok (.iload_n 2, 1) := by decide +kernel
theorem dL_refused_211 : decode cL_refused 211 = .ok (.invokevirtual 58, 3) := by decide +kernel
theorem dL_refused_214 : decode cL_refused 214 = .ok (.bipush (-2), 2) := by decide +kernel
theorem dL_refused_216 : decode cL_refused 216 = .ok (.if_icmp .ne 171, 3) := by decide +kernel
theorem dL_refused_219 : decode cL_refused 219 = .ok (.aload_n 0, 1) := by decide +kernel
theorem dL_refused_220 : decode cL_refused 220 = .ok (.iconst 0, 1) := by decide +kernel
theorem dL_refused_221 : decode cL_refused 221 = .ok (.invokevirtual 58, 3) := by decide +kernel
theorem dL_refused_224 : decode cL_refused 224 = .ok (.bipush (-6), 2) := by decide +kernel
theorem dL_refused_226 : decode cL_refused 226 = .ok (.if_icmp .ne 161, 3) := by decide +kernel
theorem dL_refused_229 : decode cL_refused 229 = .ok (.aload_n 0, 1) := by decide +kernel
theorem dL_refused_230 : decode cL_refused 230 = .ok (.iload_n 2, 1) := by decide +kernel
theorem dL_refused_231 : decode cL_refused 231 = .ok (.iconst 0, 1) := by decide +kernel
theorem dL_refused_232 : decode cL_refused 232 = .ok (.invokevirtual 99, 3) := by decide +kernel
theorem dL_refused_235 : decode cL_refused 235 = .ok (.iconst (-1), 1) := by decide +kernel
theorem dL_refused_236 : decode cL_refused 236 = .ok (.if_icmp .ne 151, 3) := by decide +kernel
theorem dL_refused_239 : decode cL_refused 239 = .ok (.aload_n 0, 1) := by decide +kernel
theorem dL_refused_240 : decode cL_refused 240 = .ok (.iload_n 2, 1) := by decide +kernel
theorem dL_refused_241 : decode cL_refused 241 = .ok (.invokevirtual 62, 3) := by decide +kernel
theorem dL_refused_244 : decode cL_refused 244 = .ok (.bipush (-2), 2) := by decide +kernel
theorem dL_refused_246 : decode cL_refused 246 = .ok (.if_icmp .ne 141, 3) := by decide +kernel
theorem dL_refused_249 : decode cL_refused 249 = .ok (.aload_n 0, 1) := by decide +kernel
theorem dL_refused_250 : decode cL_refused 250 = .ok (.iload_n 2, 1) := by decide +kernel
theorem dL_refused_251 : decode cL_refused 251 = .ok (.invokevirtual 126, 3) := by decide +kernel
theorem dL_refused_254 : decode cL_refused 254 = .ok (.bipush (-2), 2) := by decide +kernel
theorem dL_refused_256 : decode cL_refused 256 = .ok (.if_icmp .ne 131, 3) := by decide +kernel
theorem dL_refused_259 : decode cL_refused 259 = .ok (.aload_n 0, 1) := by decide +kernel
theorem dL_refused_260 : decode cL_refused 260 = .ok (.iload_n 2, 1) := by decide +kernel
theorem dL_refused_261 : decode cL_refused 261 = .ok (.iconst 0, 1) := by decide +kernel
theorem dL_refused_262 : decode cL_refused 262 = .ok (.iconst 0, 1) := by decide +kernel
theorem dL_refused_263 : decode cL_refused 263 = .ok (.invokevirtual 129, 3) := by decide +kernel
theorem dL_refused_266 : decode cL_refused 266 = .ok (.bipush (-2), 2) := by decide +kernel
theorem dL_refused_268 : decode cL_refused 268 = .ok (.if_icmp .ne 119, 3) := by decide +kernel
theorem dL_refused_271 : decode cL_refused 271 = .ok (.aload_n 0, 1) := by decide +kernel
theorem dL_refused_272 : decode cL_refused 272 = .ok (.iconst 0, 1) := by decide +kernel
theorem dL_refused_273 : decode cL_refused 273 = .ok (.iload_n 2, 1) := by decide +kernel
theorem dL_refused_274 : decode cL_refused 274 = .ok (.iconst 0, 1) := by decide +kernel
theorem dL_refused_275 : decode cL_refused 275 = .ok (.invokevirtual 129, 3) := by decide +kernel
theorem dL_refused_278 : decode cL_refused 278 = .ok (.bipush (-2), 2) := by decide +kernel
theorem dL_refused_280 : decode cL_refused 280 = .ok (.if_icmp .ne 107, 3) := by decide +kernel
theorem dL_refused_283 : decode cL_refused 283 = .ok (.aload_n 0, 1) := by decide +kernel
theorem dL_refused_284 : decode cL_refused 284 = .ok (.iconst 0, 1) := by decide +kernel
theorem dL_refused_285 : decode cL_refused 285 = .ok (.iconst 0, 1) := by decide +kernel
theorem dL_refused_286 : decode cL_refused 286 = .ok (.iload_n 2, 1) := by decide +kernel
theorem dL_refused_287 : decode cL_refused 287 = .ok (.invokevirtual 129, 3) := by decide +kernel
theorem dL_refused_290 : decode cL_refused 290 = .ok (.bipush (-2), 2) := by decide +kernel
theorem dL_refused_292 : decode cL_refused 292 = .ok (.if_icmp .ne 95, 3) := by decide +kernel
theorem dL_refused_295 : decode cL_refused 295 = .ok (.aload_n 0, 1) := by decide +kernel
theorem dL_refused_296 : decode cL_refused 296 = .ok (.iload_n 2, 1) := by decide +kernel
theorem dL_refused_297 : decode cL_refused 297 = .ok (.invokevirtual 132, 3) := by decide +kernel
theorem dL_refused_300 : decode cL_refused 300 = .ok (.bipush (-2), 2) := by decide +kernel
theorem dL_refused_302 : decode cL_refused 302 = .ok (.if_icmp .ne 85, 3) := by decide +kernel
theorem dL_refused_305 : decode cL_refused 305 = .ok (.aload_n 0, 1) := by decide +kernel
theorem dL_refused_306 : decode cL_refused 306 = .ok (.iload_n 2, 1) := by decide +kernel
theorem dL_refused_307 : decode cL_refused 307 = .ok (.iload_n 2, 1) := by decide +kernel
theorem dL_refused_308 : decode cL_refused 308 = .ok (.invokevirtual 135, 3) := by decide +kernel
theorem dL_refused_311 : decode cL_refused 311 = .ok (.bipush (-2), 2) := by decide +kernel
theorem dL_refused_313 : decode cL_refused 313 = .ok (.if_icmp .ne 74, 3) := by decide +kernel
theorem dL_refused_316 : decode cL_refused 316 = .ok (.aload_n 0, 1) := by decide +kernel
theorem dL_refused_317 : decode cL_refused 317 = .ok (.lconst 0, 1) := by decide +kernel
theorem dL_refused_318 : decode cL_refused 318 = .ok (.invokevirtual 102, 3) := by decide +kernel
theorem dL_refused_321 : decode cL_refused 321 = .ok (.bipush (-2), 2) := by decide +kernel
theorem dL_refused_323 : decode cL_refused 323 = .ok (.if_icmp .ne 64, 3) := by decide +kernel
theorem dL_refused_326 : decode cL_refused 326 = .ok (.aload_n 0, 1) := by decide +kernel
theorem dL_refused_327 : decode cL_refused 327 = .ok (.invokevirtual 120, 3) := by decide +kernel
theorem dL_refused_330 : decode cL_refused 330 = .ok (.bipush (-3), 2) := by decide +kernel
theorem dL_refused_332 : decode cL_refused 332 = .ok (.if_icmp .ne 55, 3) := by decide +kernel
theorem dL_refused_335 : decode cL_refused 335 = .ok (.aload_n 0, 1) := by decide +kernel
theorem dL_refused_336 : decode cL_refused 336 = .ok (.iload_n 2, 1) := by decide +kernel
theorem dL_refused_337 : decode cL_refused 337 = .ok (.invokevirtual 138, 3) := by decide +kernel
theorem dL_refused_340 : decode cL_refused 340 = .ok (.bipush (-2), 2) := by decide +kernel
theorem dL_refused_342 : decode cL_refused 342 = .ok (.if_icmp .ne 45, 3) := by decide +kernel
theorem dL_refused_345 : decode cL_refused 345 = .ok (.aload_n 0, 1) := by decide +kernel
theorem dL_refused_346 : decode cL_refused 346 = .ok (.iload_n 2, 1) := by decide +kernel
theorem dL_refused_347 : decode cL_refused 347 = .ok (.invokevirtual 141, 3) := by decide +kernel
theorem dL_refused_350 : decode cL_refused 350 = .ok (.bipush (-2), 2) := by decide +kernel
theorem dL_refused_352 : decode cL_refused 352 = .ok (.if_icmp .ne 35, 3) := by decide +kernel
theorem dL_refused_355 : decode cL_refused 355 = .ok (.aload_n 0, 1) := by decide +kernel
theorem dL_refused_356 : decode cL_refused 356 = .ok (.iconst 0, 1) := by decide +kernel
theorem dL_refused_357 : decode cL_refused 357 = .ok (.invokevirtual 141, 3) := by decide +kernel
theorem dL_refused_360 : decode cL_refused 360 = .ok (.bipush (-5), 2) := by decide +kernel
theorem dL_refused_362 : decode cL_refused 362 = .ok (.if_icmp .ne 25, 3) := by decide +kernel
theorem dL_refused_365 : decode cL_refused 365 = .ok (.aload_n 0, 1) := by decide +kernel
theorem dL_refused_366 : decode cL_refused 366 = .ok (.invokevirtual 123, 3) := by decide +kernel
theorem dL_refused_369 : decode cL_refused 369 = .ok (.bipush (-5), 2) := by decide +kernel
theorem dL_refused_371 : decode cL_refused 371 = .ok (.if_icmp .ne 16, 3) := by decide +kernel
theorem dL_refused_374 : decode cL_refused 374 = .ok (.aload_n 0, 1) := by decide +kernel
theorem dL_refused_375 : decode cL_refused 375 = .ok (.bipush 7, 2) := by decide +kernel
theorem dL_refused_377 : decode cL_refused 377 = .ok (.invokevirtual 62, 3) := by decide +kernel
theorem dL_refused_380 : decode cL_refused 380 = .ok (.ifCond .ne 7, 3) := by decide +kernel
theorem dL_refused_383 : decode cL_refused 383 = .ok (.iconst 1, 1) := by decide +kernel
theorem dL_refused_384 : decode cL_refused 384 = .ok (.goto 4, 3) := by decide +kernel
theorem dL_refused_387 : decode cL_refused 387 = .ok (.iconst 0, 1) := by decide +kernel
theorem dL_refused_388 : decode cL_refused 388 = .ok (.ireturn, 1) := by decide +kernel
