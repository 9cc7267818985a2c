/-! the law's own methods: what stands in the bytes -/
theorem dL_text_421 : decode cL_text 421 = .ok (.istore 17, 2) := by decide +kernel
theorem dL_text_423 : decode cL_text 423 = .ok (.iload 17, 2) := by decide +kernel
theorem dL_text_425 : decode cL_text 425 = .ok (.ifCond .eq 6, 3) := by decide +kernel
theorem dL_text_428 : decode cL_text 428 = .ok (.iinc 16 1, 3) := by decide +kernel
theorem dL_text_431 : decode cL_text 431 = .ok (.iload 17, 2) := by decide +kernel
theorem dL_text_433 : decode cL_text 433 = .ok (.ifCond .eq 14, 3) := by decide +kernel
theorem dL_text_436 : decode cL_text 436 = .ok (.aload_n 0, 1) := by decide +kernel
theorem dL_text_437 : decode cL_text 437 = .ok (.invokevirtual 82, 3) := by decide +kernel
theorem dL_text_440 : decode cL_text 440 = .ok (.ifCond .lt 7, 3) := by decide +kernel
theorem dL_text_443 : decode cL_text 443 = .ok (.iconst 1, 1) := by decide +kernel
theorem dL_text_444 : decode cL_text 444 = .ok (.goto 4, 3) := by decide +kernel
theorem dL_text_447 : decode cL_text 447 = .ok (.iconst 0, 1) := by decide +kernel
theorem dL_text_448 : decode cL_text 448 = .ok (.istore 17, 2) := by decide +kernel
theorem dL_text_450 : decode cL_text 450 = .ok (.iload 17, 2) := by decide +kernel
theorem dL_text_452 : decode cL_text 452 = .ok (.ifCond .eq 6, 3) := by decide +kernel
theorem dL_text_455 : decode cL_text 455 = .ok (.iinc 16 1, 3) := by decide +kernel
theorem dL_text_458 : decode cL_text 458 = .ok (.iload 17, 2) := by decide +kernel
theorem dL_text_460 : decode cL_text 460 = .ok (.ifCond .eq 14, 3) := by decide +kernel
theorem dL_text_463 : decode cL_text 463 = .ok (.aload_n 0, 1) := by decide +kernel
theorem dL_text_464 : decode cL_text 464 = .ok (.invokevirtual 88, 3) := by decide +kernel
theorem dL_text_467 : decode cL_text 467 = .ok (.ifCond .lt 7, 3) := by decide +kernel
theorem dL_text_470 : decode cL_text 470 = .ok (.iconst 1, 1) := by decide +kernel
theorem dL_text_471 : decode cL_text 471 = .ok (.goto 4, 3) := by decide +kernel
theorem dL_text_474 : decode cL_text 474 = .ok (.iconst 0, 1) := by decide +kernel
theorem dL_text_475 : decode cL_text 475 = .ok (.istore 17, 2) := by decide +kernel
theorem dL_text_477 : decode cL_text 477 = .ok (.iload 17, 2) := by decide +kernel
theorem dL_text_479 : decode cL_text 479 = .ok (.ifCond .eq 6, 3) := by decide +kernel
theorem dL_text_482 : decode cL_text 482 = .ok (.iinc 16 1, 3) := by decide +kernel
theorem dL_text_485 : decode cL_text 485 = .ok (.iload 16, 2) := by decide +kernel
theorem dL_text_487 : decode cL_text 487 = .ok (.iload 13, 2) := by decide +kernel
theorem dL_text_489 : decode cL_text 489 = .ok (.if_icmp .ne 17, 3) := by decide +kernel
theorem dL_text_492 : decode cL_text 492 = .ok (.aload_n 0, 1) := by decide +kernel
theorem dL_text_493 : decode cL_text 493 = .ok (.invokestatic 116, 3) := by decide +kernel
theorem dL_text_496 : decode cL_text 496 = .ok (.lload 14, 2) := by decide +kernel
theorem dL_text_498 : decode cL_text 498 = .ok (.lcmp, 1) := by decide +kernel
theorem dL_text_499 : decode cL_text 499 = .ok (.ifCond .ne 7, 3) := by decide +kernel
theorem dL_text_502 : decode cL_text 502 = .ok (.iconst 1, 1) := by decide +kernel
theorem dL_text_503 : decode cL_text 503 = .ok (.goto 4, 3) := by decide +kernel
theorem dL_text_506 : decode cL_text 506 = .ok (.iconst 0, 1) := by decide +kernel
theorem dL_text_507 : decode cL_text 507 = .ok (.ireturn, 1) := by decide +kernel
