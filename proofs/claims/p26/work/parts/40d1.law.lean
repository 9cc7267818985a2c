/-! the law's own methods: what stands in the bytes -/
theorem dL_text_190 : decode cL_text 190 = .ok (.ifCond .eq 8, 3) := by decide +kernel
theorem dL_text_193 : decode cL_text 193 = .ok (.bipush 100, 2) := by decide +kernel
theorem dL_text_195 : decode cL_text 195 = .ok (.goto 5, 3) := by decide +kernel
theorem dL_text_198 : decode cL_text 198 = .ok (.bipush 103, 2) := by decide +kernel
theorem dL_text_200 : decode cL_text 200 = .ok (.bipush 59, 2) := by decide +kernel
theorem dL_text_202 : decode cL_text 202 = .ok (.bipush 103, 2) := by decide +kernel
theorem dL_text_204 : decode cL_text 204 = .ok (.bipush 59, 2) := by decide +kernel
theorem dL_text_206 : decode cL_text 206 = .ok (.bipush 108, 2) := by decide +kernel
theorem dL_text_208 : decode cL_text 208 = .ok (.invokestatic 109, 3) := by decide +kernel
theorem dL_text_211 : decode cL_text 211 = .ok (.ifCond .eq 12, 3) := by decide +kernel
theorem dL_text_214 : decode cL_text 214 = .ok (.aload_n 0, 1) := by decide +kernel
theorem dL_text_215 : decode cL_text 215 = .ok (.invokevirtual 113, 3) := by decide +kernel
theorem dL_text_218 : decode cL_text 218 = .ok (.bipush (-6), 2) := by decide +kernel
theorem dL_text_220 : decode cL_text 220 = .ok (.if_icmp .eq 5, 3) := by decide +kernel
theorem dL_text_223 : decode cL_text 223 = .ok (.iconst 0, 1) := by decide +kernel
theorem dL_text_224 : decode cL_text 224 = .ok (.ireturn, 1) := by decide +kernel
theorem dL_text_225 : decode cL_text 225 = .ok (.aload_n 0, 1) := by decide +kernel
theorem dL_text_226 : decode cL_text 226 = .ok (.invokestatic 116, 3) := by decide +kernel
theorem dL_text_229 : decode cL_text 229 = .ok (.lstore 11, 2) := by decide +kernel
theorem dL_text_231 : decode cL_text 231 = .ok (.aload_n 0, 1) := by decide +kernel
theorem dL_text_232 : decode cL_text 232 = .ok (.invokevirtual 120, 3) := by decide +kernel
theorem dL_text_235 : decode cL_text 235 = .ok (.istore 13, 2) := by decide +kernel
theorem dL_text_237 : decode cL_text 237 = .ok (.iload 13, 2) := by decide +kernel
theorem dL_text_239 : decode cL_text 239 = .ok (.ifCond .lt 12, 3) := by decide +kernel
theorem dL_text_242 : decode cL_text 242 = .ok (.aload_n 0, 1) := by decide +kernel
theorem dL_text_243 : decode cL_text 243 = .ok (.bipush 6, 2) := by decide +kernel
theorem dL_text_245 : decode cL_text 245 = .ok (.invokevirtual 62, 3) := by decide +kernel
theorem dL_text_248 : decode cL_text 248 = .ok (.ifCond .eq 5, 3) := by decide +kernel
theorem dL_text_251 : decode cL_text 251 = .ok (.iconst 0, 1) := by decide +kernel
theorem dL_text_252 : decode cL_text 252 = .ok (.ireturn, 1) := by decide +kernel
theorem dL_text_253 : decode cL_text 253 = .ok (.aload_n 0, 1) := by decide +kernel
theorem dL_text_254 : decode cL_text 254 = .ok (.invokestatic 116, 3) := by decide +kernel
theorem dL_text_257 : decode cL_text 257 = .ok (.lstore 14, 2) := by decide +kernel
theorem dL_text_259 : decode cL_text 259 = .ok (.aload_n 0, 1) := by decide +kernel
theorem dL_text_260 : decode cL_text 260 = .ok (.invokevirtual 123, 3) := by decide +kernel
theorem dL_text_263 : decode cL_text 263 = .ok (.ifCond .lt 13, 3) := by decide +kernel
theorem dL_text_266 : decode cL_text 266 = .ok (.aload_n 0, 1) := by decide +kernel
theorem dL_text_267 : decode cL_text 267 = .ok (.invokestatic 116, 3) := by decide +kernel
theorem dL_text_270 : decode cL_text 270 = .ok (.lload 11, 2) := by decide +kernel
theorem dL_text_272 : decode cL_text 272 = .ok (.lcmp, 1) := by decide +kernel
theorem dL_text_273 : decode cL_text 273 = .ok (.ifCond .eq 5, 3) := by decide +kernel
theorem dL_text_276 : decode cL_text 276 = .ok (.iconst 0, 1) := by decide +kernel
theorem dL_text_277 : decode cL_text 277 = .ok (.ireturn, 1) := by decide +kernel
theorem dL_text_278 : decode cL_text 278 = .ok (.iconst 0, 1) := by decide +kernel
theorem dL_text_279 : decode cL_text 279 = .ok (.istore 16, 2) := by decide +kernel
theorem dL_text_281 : decode cL_text 281 = .ok (.iconst 1, 1) := by decide +kernel
theorem dL_text_282 : decode cL_text 282 = .ok (.istore 17, 2) := by decide +kernel
theorem dL_text_284 : decode cL_text 284 = .ok (.iload 4, 2) := by decide +kernel
theorem dL_text_286 : decode cL_text 286 = .ok (.istore 18, 2) := by decide +kernel
theorem dL_text_288 : decode cL_text 288 = .ok (.iload 18, 2) := by decide +kernel
theorem dL_text_290 : decode cL_text 290 = .ok (.iload 5, 2) := by decide +kernel
theorem dL_text_292 : decode cL_text 292 = .ok (.if_icmp .gt 33, 3) := by decide +kernel
theorem dL_text_295 : decode cL_text 295 = .ok (.iload 17, 2) := by decide +kernel
theorem dL_text_297 : decode cL_text 297 = .ok (.ifCond .eq 28, 3) := by decide +kernel
theorem dL_text_300 : decode cL_text 300 = .ok (.aload_n 0, 1) := by decide +kernel
theorem dL_text_301 : decode cL_text 301 = .ok (.iload_n 3, 1) := by decide +kernel
theorem dL_text_302 : decode cL_text 302 = .ok (.iload 18, 2) := by decide +kernel
theorem dL_text_304 : decode cL_text 304 = .ok (.iload 6, 2) := by decide +kernel
theorem dL_text_306 : decode cL_text 306 = .ok (.invokevirtual 29, 3) := by decide +kernel
theorem dL_text_309 : decode cL_text 309 = .ok (.ifCond .lt 7, 3) := by decide +kernel
theorem dL_text_312 : decode cL_text 312 = .ok (.iconst 1, 1) := by decide +kernel
theorem dL_text_313 : decode cL_text 313 = .ok (.goto 4, 3) := by decide +kernel
theorem dL_text_316 : decode cL_text 316 = .ok (.iconst 0, 1) := by decide +kernel
theorem dL_text_317 : decode cL_text 317 = .ok (.istore 17, 2) := by decide +kernel
theorem dL_text_319 : decode cL_text 319 = .ok (.iinc 18 1, 3) := by decide +kernel
theorem dL_text_322 : decode cL_text 322 = .ok (.goto (-34), 3) := by decide +kernel
theorem dL_text_325 : decode cL_text 325 = .ok (.iload 17, 2) := by decide +kernel
theorem dL_text_327 : decode cL_text 327 = .ok (.ifCond .eq 18, 3) := by decide +kernel
theorem dL_text_330 : decode cL_text 330 = .ok (.aload_n 0, 1) := by decide +kernel
theorem dL_text_331 : decode cL_text 331 = .ok (.iload_n 3, 1) := by decide +kernel
theorem dL_text_332 : decode cL_text 332 = .ok (.iload 7, 2) := by decide +kernel
theorem dL_text_334 : decode cL_text 334 = .ok (.iconst 1, 1) := by decide +kernel
theorem dL_text_335 : decode cL_text 335 = .ok (.invokevirtual 29, 3) := by decide +kernel
theorem dL_text_338 : decode cL_text 338 = .ok (.ifCond .lt 7, 3) := by decide +kernel
theorem dL_text_341 : decode cL_text 341 = .ok (.iconst 1, 1) := by decide +kernel
theorem dL_text_342 : decode cL_text 342 = .ok (.goto 4, 3) := by decide +kernel
theorem dL_text_345 : decode cL_text 345 = .ok (.iconst 0, 1) := by decide +kernel
theorem dL_text_346 : decode cL_text 346 = .ok (.istore 17, 2) := by decide +kernel
theorem dL_text_348 : decode cL_text 348 = .ok (.iload 17, 2) := by decide +kernel
theorem dL_text_350 : decode cL_text 350 = .ok (.ifCond .eq 6, 3) := by decide +kernel
theorem dL_text_353 : decode cL_text 353 = .ok (.iinc 16 1, 3) := by decide +kernel
theorem dL_text_356 : decode cL_text 356 = .ok (.iload 17, 2) := by decide +kernel
theorem dL_text_358 : decode cL_text 358 = .ok (.ifCond .eq 20, 3) := by decide +kernel
theorem dL_text_361 : decode cL_text 361 = .ok (.aload_n 0, 1) := by decide +kernel
theorem dL_text_362 : decode cL_text 362 = .ok (.bipush (-6), 2) := by decide +kernel
theorem dL_text_364 : decode cL_text 364 = .ok (.iload 8, 2) := by decide +kernel
theorem dL_text_366 : decode cL_text 366 = .ok (.iload 9, 2) := by decide +kernel
theorem dL_text_368 : decode cL_text 368 = .ok (.invokevirtual 72, 3) := by decide +kernel
theorem dL_text_371 : decode cL_text 371 = .ok (.ifCond .lt 7, 3) := by decide +kernel
theorem dL_text_374 : decode cL_text 374 = .ok (.iconst 1, 1) := by decide +kernel
theorem dL_text_375 : decode cL_text 375 = .ok (.goto 4, 3) := by decide +kernel
theorem dL_text_378 : decode cL_text 378 = .ok (.iconst 0, 1) := by decide +kernel
theorem dL_text_379 : decode cL_text 379 = .ok (.istore 17, 2) := by decide +kernel
theorem dL_text_381 : decode cL_text 381 = .ok (.iload 17, 2) := by decide +kernel
theorem dL_text_383 : decode cL_text 383 = .ok (.ifCond .eq 6, 3) := by decide +kernel
theorem dL_text_386 : decode cL_text 386 = .ok (.iinc 16 1, 3) := by decide +kernel
theorem dL_text_389 : decode cL_text 389 = .ok (.iload 17, 2) := by decide +kernel
theorem dL_text_391 : decode cL_text 391 = .ok (.ifCond .eq 29, 3) := by decide +kernel
theorem dL_text_394 : decode cL_text 394 = .ok (.iload 10, 2) := by decide +kernel
theorem dL_text_396 : decode cL_text 396 = .ok (.ifCond .eq 13, 3) := by decide +kernel
theorem dL_text_399 : decode cL_text 399 = .ok (.aload_n 0, 1) := by decide +kernel
theorem dL_text_400 : decode cL_text 400 = .ok (.invokevirtual 78, 3) := by decide +kernel
theorem dL_text_403 : decode cL_text 403 = .ok (.ifCond .lt 17, 3) := by decide +kernel
theorem dL_text_406 : decode cL_text 406 = .ok (.goto 10, 3) := by decide +kernel
theorem dL_text_409 : decode cL_text 409 = .ok (.aload_n 0, 1) := by decide +kernel
theorem dL_text_410 : decode cL_text 410 = .ok (.invokevirtual 82, 3) := by decide +kernel
theorem dL_text_413 : decode cL_text 413 = .ok (.ifCond .lt 7, 3) := by decide +kernel
theorem dL_text_416 : decode cL_text 416 = .ok (.iconst 1, 1) := by decide +kernel
theorem dL_text_417 : decode cL_text 417 = .ok (.goto 4, 3) := by decide +kernel
theorem dL_text_420 : decode cL_text 420 = .ok (.iconst 0, 1) := by decide +kernel
