/-! the law: its loop -/
section LAWL
variable {S S' S1 S2 : MM}
theorem lawEnd {i : Int} (h : S 604 1 < i + 4) (hi : 0 ≤ i ∧ i ≤ 3000) (hL : 0 ≤ S 604 1 ∧ S 604 1 ≤ 2048) : rn xL_law (18, [some (vR 603), some (vR 0), some (vR 593), some (vI i)], [], S) = some (some (vI 1), S) := by
  rw [eL_law_18]
  simp (disch := omega) only [eL_law_19, eL_law_20, eL_law_20x, eL_law_20y, eL_law_21, eL_law_22, eL_law_23, eL_law_745, eL_law_746, if_pos, if_neg, if_true, if_false, Option.bind_some, Option.toList_some, Option.toList_none, List.cons_append, List.nil_append]
theorem law_set {i : Nat} (hc : S 603 i % 32 = 0) (h : (i : Int) + 4 ≤ S 604 1) (hL : 0 ≤ S 604 1 ∧ S 604 1 ≤ 2048) (hx : ∀ j : Nat, (j : Int) < S 604 1 → rng (S 603 j)) (hp : Pair fX8_set fX9_set [vI (S 603 (i + 1)), vI (S 603 (i + 2))] S) : ∃ S2, rn xL_law (18, [some (vR 603), some (vR 0), some (vR 593), some (vI (i : Int))], [], S) = rn xL_law (18, [some (vR 603), some (vR 0), some (vR 593), some (vI ((i + 4 : Nat) : Int))], [], S2) ∧ Rel S2 ∧ S2 602 = S 602 ∧ S2 603 = S 603 ∧ S2 604 = S 604 := by
  obtain ⟨r, S1, S2, p1, p2, p3, p4, p5, p6, p7, p8, p9⟩ := hp
  have p66 : S1 604 1 = S 604 1 := by rw [p6]
  have x1 : ((i : Int) + 1).toNat = i + 1 := by omega
  have x2 : ((i : Int) + 2).toNat = i + 2 := by omega
  have x3 : ((i : Int) + 3).toNat = i + 3 := by omega
  obtain ⟨r1, r2⟩ := p2
  refine ⟨S2, ?_, p4, p7, p8, p9⟩
  clear hx
  rw [eL_law_18]
  simp (disch := omega) only [eL_law_19, eL_law_20, eL_law_20x, eL_law_20y, eL_law_21, eL_law_22, eL_law_23, eL_law_26, eL_law_27, eL_law_28, eL_law_28x, eL_law_28y, eL_law_29, eL_law_31, eL_law_32, if_pos, if_neg, if_true, if_false, Option.bind_some, Option.toList_some, Option.toList_none, List.cons_append, List.nil_append, Int.toNat_natCast, hc]
  simp (disch := omega) only [eL_law_140, eL_law_141, eL_law_142, eL_law_143, eL_law_144, eL_law_145, eL_law_145x, eL_law_145y, eL_law_146, eL_law_147, eL_law_148, eL_law_149, eL_law_150, eL_law_150x, eL_law_150y, eL_law_151, eL_law_154, eL_law_155, eL_law_156, eL_law_157, eL_law_158, eL_law_159, eL_law_159x, eL_law_159y, eL_law_160, eL_law_161, eL_law_162, eL_law_163, eL_law_164, eL_law_164x, eL_law_164y, eL_law_165, eL_law_168, eL_law_171, eL_law_172, eL_law_739, eL_law_742, if_pos, if_neg, if_true, if_false, Option.bind_some, Option.toList_some, Option.toList_none, List.cons_append, List.nil_append, x1, x2, x3, p1, p3, p5, p6]
  rw [show ((i : Int) + 4) = ((i + 4 : Nat) : Int) by omega]
theorem law_stone {i : Nat} (hc : S 603 i % 32 = 1) (h : (i : Int) + 4 ≤ S 604 1) (hL : 0 ≤ S 604 1 ∧ S 604 1 ≤ 2048) (hx : ∀ j : Nat, (j : Int) < S 604 1 → rng (S 603 j)) (hp : Pair fX8_stone fX9_stone [vI (S 603 (i + 1)), vI (S 603 (i + 2)), vI (S 603 (i + 3))] S) : ∃ S2, rn xL_law (18, [some (vR 603), some (vR 0), some (vR 593), some (vI (i : Int))], [], S) = rn xL_law (18, [some (vR 603), some (vR 0), some (vR 593), some (vI ((i + 4 : Nat) : Int))], [], S2) ∧ Rel S2 ∧ S2 602 = S 602 ∧ S2 603 = S 603 ∧ S2 604 = S 604 := by
  obtain ⟨r, S1, S2, p1, p2, p3, p4, p5, p6, p7, p8, p9⟩ := hp
  have p66 : S1 604 1 = S 604 1 := by rw [p6]
  have x1 : ((i : Int) + 1).toNat = i + 1 := by omega
  have x2 : ((i : Int) + 2).toNat = i + 2 := by omega
  have x3 : ((i : Int) + 3).toNat = i + 3 := by omega
  obtain ⟨r1, r2⟩ := p2
  refine ⟨S2, ?_, p4, p7, p8, p9⟩
  clear hx
  rw [eL_law_18]
  simp (disch := omega) only [eL_law_19, eL_law_20, eL_law_20x, eL_law_20y, eL_law_21, eL_law_22, eL_law_23, eL_law_26, eL_law_27, eL_law_28, eL_law_28x, eL_law_28y, eL_law_29, eL_law_31, eL_law_32, if_pos, if_neg, if_true, if_false, Option.bind_some, Option.toList_some, Option.toList_none, List.cons_append, List.nil_append, Int.toNat_natCast, hc]
  simp (disch := omega) only [eL_law_173, eL_law_174, eL_law_175, eL_law_176, eL_law_177, eL_law_178, eL_law_178x, eL_law_178y, eL_law_179, eL_law_180, eL_law_181, eL_law_182, eL_law_183, eL_law_183x, eL_law_183y, eL_law_184, eL_law_185, eL_law_186, eL_law_187, eL_law_188, eL_law_188x, eL_law_188y, eL_law_189, eL_law_192, eL_law_193, eL_law_194, eL_law_195, eL_law_196, eL_law_197, eL_law_197x, eL_law_197y, eL_law_198, eL_law_199, eL_law_200, eL_law_201, eL_law_202, eL_law_202x, eL_law_202y, eL_law_203, eL_law_204, eL_law_205, eL_law_206, eL_law_207, eL_law_207x, eL_law_207y, eL_law_208, eL_law_211, eL_law_214, eL_law_215, eL_law_739, eL_law_742, if_pos, if_neg, if_true, if_false, Option.bind_some, Option.toList_some, Option.toList_none, List.cons_append, List.nil_append, x1, x2, x3, p1, p3, p5, p6]
  rw [show ((i : Int) + 4) = ((i + 4 : Nat) : Int) by omega]
theorem law_flood {i : Nat} (hc : S 603 i % 32 = 2) (h : (i : Int) + 4 ≤ S 604 1) (hL : 0 ≤ S 604 1 ∧ S 604 1 ≤ 2048) (hx : ∀ j : Nat, (j : Int) < S 604 1 → rng (S 603 j)) (hp : Pair fX8_flood fX9_flood [vI (S 603 (i + 1)), vI (S 603 (i + 2)), vI (S 603 (i + 3))] S) : ∃ S2, rn xL_law (18, [some (vR 603), some (vR 0), some (vR 593), some (vI (i : Int))], [], S) = rn xL_law (18, [some (vR 603), some (vR 0), some (vR 593), some (vI ((i + 4 : Nat) : Int))], [], S2) ∧ Rel S2 ∧ S2 602 = S 602 ∧ S2 603 = S 603 ∧ S2 604 = S 604 := by
  obtain ⟨r, S1, S2, p1, p2, p3, p4, p5, p6, p7, p8, p9⟩ := hp
  have p66 : S1 604 1 = S 604 1 := by rw [p6]
  have x1 : ((i : Int) + 1).toNat = i + 1 := by omega
  have x2 : ((i : Int) + 2).toNat = i + 2 := by omega
  have x3 : ((i : Int) + 3).toNat = i + 3 := by omega
  obtain ⟨r1, r2⟩ := p2
  refine ⟨S2, ?_, p4, p7, p8, p9⟩
  clear hx
  rw [eL_law_18]
  simp (disch := omega) only [eL_law_19, eL_law_20, eL_law_20x, eL_law_20y, eL_law_21, eL_law_22, eL_law_23, eL_law_26, eL_law_27, eL_law_28, eL_law_28x, eL_law_28y, eL_law_29, eL_law_31, eL_law_32, if_pos, if_neg, if_true, if_false, Option.bind_some, Option.toList_some, Option.toList_none, List.cons_append, List.nil_append, Int.toNat_natCast, hc]
  simp (disch := omega) only [eL_law_216, eL_law_217, eL_law_218, eL_law_219, eL_law_220, eL_law_221, eL_law_221x, eL_law_221y, eL_law_222, eL_law_223, eL_law_224, eL_law_225, eL_law_226, eL_law_226x, eL_law_226y, eL_law_227, eL_law_228, eL_law_229, eL_law_230, eL_law_231, eL_law_231x, eL_law_231y, eL_law_232, eL_law_235, eL_law_236, eL_law_237, eL_law_238, eL_law_239, eL_law_240, eL_law_240x, eL_law_240y, eL_law_241, eL_law_242, eL_law_243, eL_law_244, eL_law_245, eL_law_245x, eL_law_245y, eL_law_246, eL_law_247, eL_law_248, eL_law_249, eL_law_250, eL_law_250x, eL_law_250y, eL_law_251, eL_law_254, eL_law_257, eL_law_258, eL_law_739, eL_law_742, if_pos, if_neg, if_true, if_false, Option.bind_some, Option.toList_some, Option.toList_none, List.cons_append, List.nil_append, x1, x2, x3, p1, p3, p5, p6]
  rw [show ((i : Int) + 4) = ((i + 4 : Nat) : Int) by omega]
theorem law_dry {i : Nat} (hc : S 603 i % 32 = 3) (h : (i : Int) + 4 ≤ S 604 1) (hL : 0 ≤ S 604 1 ∧ S 604 1 ≤ 2048) (hx : ∀ j : Nat, (j : Int) < S 604 1 → rng (S 603 j)) (hp : Pair fX8_dry fX9_dry [] S) : ∃ S2, rn xL_law (18, [some (vR 603), some (vR 0), some (vR 593), some (vI (i : Int))], [], S) = rn xL_law (18, [some (vR 603), some (vR 0), some (vR 593), some (vI ((i + 4 : Nat) : Int))], [], S2) ∧ Rel S2 ∧ S2 602 = S 602 ∧ S2 603 = S 603 ∧ S2 604 = S 604 := by
  obtain ⟨r, S1, S2, p1, p2, p3, p4, p5, p6, p7, p8, p9⟩ := hp
  have p66 : S1 604 1 = S 604 1 := by rw [p6]
  have x1 : ((i : Int) + 1).toNat = i + 1 := by omega
  have x2 : ((i : Int) + 2).toNat = i + 2 := by omega
  have x3 : ((i : Int) + 3).toNat = i + 3 := by omega
  obtain ⟨r1, r2⟩ := p2
  refine ⟨S2, ?_, p4, p7, p8, p9⟩
  clear hx
  rw [eL_law_18]
  simp (disch := omega) only [eL_law_19, eL_law_20, eL_law_20x, eL_law_20y, eL_law_21, eL_law_22, eL_law_23, eL_law_26, eL_law_27, eL_law_28, eL_law_28x, eL_law_28y, eL_law_29, eL_law_31, eL_law_32, if_pos, if_neg, if_true, if_false, Option.bind_some, Option.toList_some, Option.toList_none, List.cons_append, List.nil_append, Int.toNat_natCast, hc]
  simp (disch := omega) only [eL_law_259, eL_law_260, eL_law_263, eL_law_264, eL_law_267, eL_law_270, eL_law_271, eL_law_739, eL_law_742, if_pos, if_neg, if_true, if_false, Option.bind_some, Option.toList_some, Option.toList_none, List.cons_append, List.nil_append, x1, x2, x3, p1, p3, p5, p6]
  rw [show ((i : Int) + 4) = ((i + 4 : Nat) : Int) by omega]
theorem law_begin {i : Nat} (hc : S 603 i % 32 = 4) (h : (i : Int) + 4 ≤ S 604 1) (hL : 0 ≤ S 604 1 ∧ S 604 1 ≤ 2048) (hx : ∀ j : Nat, (j : Int) < S 604 1 → rng (S 603 j)) (hp : Pair fX8_begin fX9_begin [] S) : ∃ S2, rn xL_law (18, [some (vR 603), some (vR 0), some (vR 593), some (vI (i : Int))], [], S) = rn xL_law (18, [some (vR 603), some (vR 0), some (vR 593), some (vI ((i + 4 : Nat) : Int))], [], S2) ∧ Rel S2 ∧ S2 602 = S 602 ∧ S2 603 = S 603 ∧ S2 604 = S 604 := by
  obtain ⟨r, S1, S2, p1, p2, p3, p4, p5, p6, p7, p8, p9⟩ := hp
  have p66 : S1 604 1 = S 604 1 := by rw [p6]
  have x1 : ((i : Int) + 1).toNat = i + 1 := by omega
  have x2 : ((i : Int) + 2).toNat = i + 2 := by omega
  have x3 : ((i : Int) + 3).toNat = i + 3 := by omega
  obtain ⟨r1, r2⟩ := p2
  refine ⟨S2, ?_, p4, p7, p8, p9⟩
  clear hx
  rw [eL_law_18]
  simp (disch := omega) only [eL_law_19, eL_law_20, eL_law_20x, eL_law_20y, eL_law_21, eL_law_22, eL_law_23, eL_law_26, eL_law_27, eL_law_28, eL_law_28x, eL_law_28y, eL_law_29, eL_law_31, eL_law_32, if_pos, if_neg, if_true, if_false, Option.bind_some, Option.toList_some, Option.toList_none, List.cons_append, List.nil_append, Int.toNat_natCast, hc]
  simp (disch := omega) only [eL_law_272, eL_law_273, eL_law_276, eL_law_277, eL_law_280, eL_law_283, eL_law_284, eL_law_739, eL_law_742, if_pos, if_neg, if_true, if_false, Option.bind_some, Option.toList_some, Option.toList_none, List.cons_append, List.nil_append, x1, x2, x3, p1, p3, p5, p6]
  rw [show ((i : Int) + 4) = ((i + 4 : Nat) : Int) by omega]
theorem law_leap {i : Nat} (hc : S 603 i % 32 = 5) (h : (i : Int) + 4 ≤ S 604 1) (hL : 0 ≤ S 604 1 ∧ S 604 1 ≤ 2048) (hx : ∀ j : Nat, (j : Int) < S 604 1 → rng (S 603 j)) (hp : Pair fX8_leap fX9_leap [] S) : ∃ S2, rn xL_law (18, [some (vR 603), some (vR 0), some (vR 593), some (vI (i : Int))], [], S) = rn xL_law (18, [some (vR 603), some (vR 0), some (vR 593), some (vI ((i + 4 : Nat) : Int))], [], S2) ∧ Rel S2 ∧ S2 602 = S 602 ∧ S2 603 = S 603 ∧ S2 604 = S 604 := by
  obtain ⟨r, S1, S2, p1, p2, p3, p4, p5, p6, p7, p8, p9⟩ := hp
  have p66 : S1 604 1 = S 604 1 := by rw [p6]
  have x1 : ((i : Int) + 1).toNat = i + 1 := by omega
  have x2 : ((i : Int) + 2).toNat = i + 2 := by omega
  have x3 : ((i : Int) + 3).toNat = i + 3 := by omega
  obtain ⟨r1, r2⟩ := p2
  refine ⟨S2, ?_, p4, p7, p8, p9⟩
  clear hx
  rw [eL_law_18]
  simp (disch := omega) only [eL_law_19, eL_law_20, eL_law_20x, eL_law_20y, eL_law_21, eL_law_22, eL_law_23, eL_law_26, eL_law_27, eL_law_28, eL_law_28x, eL_law_28y, eL_law_29, eL_law_31, eL_law_32, if_pos, if_neg, if_true, if_false, Option.bind_some, Option.toList_some, Option.toList_none, List.cons_append, List.nil_append, Int.toNat_natCast, hc]
  simp (disch := omega) only [eL_law_285, eL_law_286, eL_law_289, eL_law_290, eL_law_293, eL_law_296, eL_law_297, eL_law_739, eL_law_742, if_pos, if_neg, if_true, if_false, Option.bind_some, Option.toList_some, Option.toList_none, List.cons_append, List.nil_append, x1, x2, x3, p1, p3, p5, p6]
  rw [show ((i : Int) + 4) = ((i + 4 : Nat) : Int) by omega]
theorem law_run {i : Nat} (hc : S 603 i % 32 = 6) (h : (i : Int) + 4 ≤ S 604 1) (hL : 0 ≤ S 604 1 ∧ S 604 1 ≤ 2048) (hx : ∀ j : Nat, (j : Int) < S 604 1 → rng (S 603 j)) (hp : Pair fX8_run fX9_run [] S) : ∃ S2, rn xL_law (18, [some (vR 603), some (vR 0), some (vR 593), some (vI (i : Int))], [], S) = rn xL_law (18, [some (vR 603), some (vR 0), some (vR 593), some (vI ((i + 4 : Nat) : Int))], [], S2) ∧ Rel S2 ∧ S2 602 = S 602 ∧ S2 603 = S 603 ∧ S2 604 = S 604 := by
  obtain ⟨r, S1, S2, p1, p2, p3, p4, p5, p6, p7, p8, p9⟩ := hp
  have p66 : S1 604 1 = S 604 1 := by rw [p6]
  have x1 : ((i : Int) + 1).toNat = i + 1 := by omega
  have x2 : ((i : Int) + 2).toNat = i + 2 := by omega
  have x3 : ((i : Int) + 3).toNat = i + 3 := by omega
  obtain ⟨r1, r2⟩ := p2
  refine ⟨S2, ?_, p4, p7, p8, p9⟩
  clear hx
  rw [eL_law_18]
  simp (disch := omega) only [eL_law_19, eL_law_20, eL_law_20x, eL_law_20y, eL_law_21, eL_law_22, eL_law_23, eL_law_26, eL_law_27, eL_law_28, eL_law_28x, eL_law_28y, eL_law_29, eL_law_31, eL_law_32, if_pos, if_neg, if_true, if_false, Option.bind_some, Option.toList_some, Option.toList_none, List.cons_append, List.nil_append, Int.toNat_natCast, hc]
  simp (disch := omega) only [eL_law_298, eL_law_299, eL_law_302, eL_law_303, eL_law_306, eL_law_309, eL_law_310, eL_law_739, eL_law_742, if_pos, if_neg, if_true, if_false, Option.bind_some, Option.toList_some, Option.toList_none, List.cons_append, List.nil_append, x1, x2, x3, p1, p3, p5, p6]
  rw [show ((i : Int) + 4) = ((i + 4 : Nat) : Int) by omega]
theorem law_ofWalker {i : Nat} (hc : S 603 i % 32 = 7) (h : (i : Int) + 4 ≤ S 604 1) (hL : 0 ≤ S 604 1 ∧ S 604 1 ≤ 2048) (hx : ∀ j : Nat, (j : Int) < S 604 1 → rng (S 603 j)) (hp : Pair fX8_ofWalker fX9_ofWalker [vI (S 603 (i + 1)), vI (S 603 (i + 2))] S) : ∃ S2, rn xL_law (18, [some (vR 603), some (vR 0), some (vR 593), some (vI (i : Int))], [], S) = rn xL_law (18, [some (vR 603), some (vR 0), some (vR 593), some (vI ((i + 4 : Nat) : Int))], [], S2) ∧ Rel S2 ∧ S2 602 = S 602 ∧ S2 603 = S 603 ∧ S2 604 = S 604 := by
  obtain ⟨r, S1, S2, p1, p2, p3, p4, p5, p6, p7, p8, p9⟩ := hp
  have p66 : S1 604 1 = S 604 1 := by rw [p6]
  have x1 : ((i : Int) + 1).toNat = i + 1 := by omega
  have x2 : ((i : Int) + 2).toNat = i + 2 := by omega
  have x3 : ((i : Int) + 3).toNat = i + 3 := by omega
  obtain ⟨r1, r2⟩ := p2
  refine ⟨S2, ?_, p4, p7, p8, p9⟩
  clear hx
  rw [eL_law_18]
  simp (disch := omega) only [eL_law_19, eL_law_20, eL_law_20x, eL_law_20y, eL_law_21, eL_law_22, eL_law_23, eL_law_26, eL_law_27, eL_law_28, eL_law_28x, eL_law_28y, eL_law_29, eL_law_31, eL_law_32, if_pos, if_neg, if_true, if_false, Option.bind_some, Option.toList_some, Option.toList_none, List.cons_append, List.nil_append, Int.toNat_natCast, hc]
  simp (disch := omega) only [eL_law_311, eL_law_312, eL_law_313, eL_law_314, eL_law_315, eL_law_316, eL_law_316x, eL_law_316y, eL_law_317, eL_law_318, eL_law_319, eL_law_320, eL_law_321, eL_law_321x, eL_law_321y, eL_law_322, eL_law_325, eL_law_326, eL_law_327, eL_law_328, eL_law_329, eL_law_330, eL_law_330x, eL_law_330y, eL_law_331, eL_law_332, eL_law_333, eL_law_334, eL_law_335, eL_law_335x, eL_law_335y, eL_law_336, eL_law_339, eL_law_342, eL_law_343, eL_law_739, eL_law_742, if_pos, if_neg, if_true, if_false, Option.bind_some, Option.toList_some, Option.toList_none, List.cons_append, List.nil_append, x1, x2, x3, p1, p3, p5, p6]
  rw [show ((i : Int) + 4) = ((i + 4 : Nat) : Int) by omega]
theorem law_ofStone {i : Nat} (hc : S 603 i % 32 = 8) (h : (i : Int) + 4 ≤ S 604 1) (hL : 0 ≤ S 604 1 ∧ S 604 1 ≤ 2048) (hx : ∀ j : Nat, (j : Int) < S 604 1 → rng (S 603 j)) (hp : Pair fX8_ofStone fX9_ofStone [vI (S 603 (i + 1)), vI (S 603 (i + 2)), vI (S 603 (i + 3))] S) : ∃ S2, rn xL_law (18, [some (vR 603), some (vR 0), some (vR 593), some (vI (i : Int))], [], S) = rn xL_law (18, [some (vR 603), some (vR 0), some (vR 593), some (vI ((i + 4 : Nat) : Int))], [], S2) ∧ Rel S2 ∧ S2 602 = S 602 ∧ S2 603 = S 603 ∧ S2 604 = S 604 := by
  obtain ⟨r, S1, S2, p1, p2, p3, p4, p5, p6, p7, p8, p9⟩ := hp
  have p66 : S1 604 1 = S 604 1 := by rw [p6]
  have x1 : ((i : Int) + 1).toNat = i + 1 := by omega
  have x2 : ((i : Int) + 2).toNat = i + 2 := by omega
  have x3 : ((i : Int) + 3).toNat = i + 3 := by omega
  obtain ⟨r1, r2⟩ := p2
  refine ⟨S2, ?_, p4, p7, p8, p9⟩
  clear hx
  rw [eL_law_18]
  simp (disch := omega) only [eL_law_19, eL_law_20, eL_law_20x, eL_law_20y, eL_law_21, eL_law_22, eL_law_23, eL_law_26, eL_law_27, eL_law_28, eL_law_28x, eL_law_28y, eL_law_29, eL_law_31, eL_law_32, if_pos, if_neg, if_true, if_false, Option.bind_some, Option.toList_some, Option.toList_none, List.cons_append, List.nil_append, Int.toNat_natCast, hc]
  simp (disch := omega) only [eL_law_344, eL_law_345, eL_law_346, eL_law_347, eL_law_348, eL_law_349, eL_law_349x, eL_law_349y, eL_law_350, eL_law_351, eL_law_352, eL_law_353, eL_law_354, eL_law_354x, eL_law_354y, eL_law_355, eL_law_356, eL_law_357, eL_law_358, eL_law_359, eL_law_359x, eL_law_359y, eL_law_360, eL_law_363, eL_law_364, eL_law_365, eL_law_366, eL_law_367, eL_law_368, eL_law_368x, eL_law_368y, eL_law_369, eL_law_370, eL_law_371, eL_law_372, eL_law_373, eL_law_373x, eL_law_373y, eL_law_374, eL_law_375, eL_law_376, eL_law_377, eL_law_378, eL_law_378x, eL_law_378y, eL_law_379, eL_law_382, eL_law_385, eL_law_386, eL_law_739, eL_law_742, if_pos, if_neg, if_true, if_false, Option.bind_some, Option.toList_some, Option.toList_none, List.cons_append, List.nil_append, x1, x2, x3, p1, p3, p5, p6]
  rw [show ((i : Int) + 4) = ((i + 4 : Nat) : Int) by omega]
theorem law_ofRun {i : Nat} (hc : S 603 i % 32 = 9) (h : (i : Int) + 4 ≤ S 604 1) (hL : 0 ≤ S 604 1 ∧ S 604 1 ≤ 2048) (hx : ∀ j : Nat, (j : Int) < S 604 1 → rng (S 603 j)) (hp : Pair fX8_ofRun fX9_ofRun [vI (S 603 (i + 1))] S) : ∃ S2, rn xL_law (18, [some (vR 603), some (vR 0), some (vR 593), some (vI (i : Int))], [], S) = rn xL_law (18, [some (vR 603), some (vR 0), some (vR 593), some (vI ((i + 4 : Nat) : Int))], [], S2) ∧ Rel S2 ∧ S2 602 = S 602 ∧ S2 603 = S 603 ∧ S2 604 = S 604 := by
  obtain ⟨r, S1, S2, p1, p2, p3, p4, p5, p6, p7, p8, p9⟩ := hp
  have p66 : S1 604 1 = S 604 1 := by rw [p6]
  have x1 : ((i : Int) + 1).toNat = i + 1 := by omega
  have x2 : ((i : Int) + 2).toNat = i + 2 := by omega
  have x3 : ((i : Int) + 3).toNat = i + 3 := by omega
  obtain ⟨r1, r2⟩ := p2
  refine ⟨S2, ?_, p4, p7, p8, p9⟩
  clear hx
  rw [eL_law_18]
  simp (disch := omega) only [eL_law_19, eL_law_20, eL_law_20x, eL_law_20y, eL_law_21, eL_law_22, eL_law_23, eL_law_26, eL_law_27, eL_law_28, eL_law_28x, eL_law_28y, eL_law_29, eL_law_31, eL_law_32, if_pos, if_neg, if_true, if_false, Option.bind_some, Option.toList_some, Option.toList_none, List.cons_append, List.nil_append, Int.toNat_natCast, hc]
  simp (disch := omega) only [eL_law_387, eL_law_388, eL_law_389, eL_law_390, eL_law_391, eL_law_392, eL_law_392x, eL_law_392y, eL_law_393, eL_law_396, eL_law_397, eL_law_398, eL_law_399, eL_law_400, eL_law_401, eL_law_401x, eL_law_401y, eL_law_402, eL_law_405, eL_law_408, eL_law_409, eL_law_739, eL_law_742, if_pos, if_neg, if_true, if_false, Option.bind_some, Option.toList_some, Option.toList_none, List.cons_append, List.nil_append, x1, x2, x3, p1, p3, p5, p6]
  rw [show ((i : Int) + 4) = ((i + 4 : Nat) : Int) by omega]
theorem law_meeting {i : Nat} (hc : S 603 i % 32 = 10) (h : (i : Int) + 4 ≤ S 604 1) (hL : 0 ≤ S 604 1 ∧ S 604 1 ≤ 2048) (hx : ∀ j : Nat, (j : Int) < S 604 1 → rng (S 603 j)) (hp : Pair fX8_meeting fX9_meeting [vI (S 603 (i + 1)), vI (S 603 (i + 2))] S) : ∃ S2, rn xL_law (18, [some (vR 603), some (vR 0), some (vR 593), some (vI (i : Int))], [], S) = rn xL_law (18, [some (vR 603), some (vR 0), some (vR 593), some (vI ((i + 4 : Nat) : Int))], [], S2) ∧ Rel S2 ∧ S2 602 = S 602 ∧ S2 603 = S 603 ∧ S2 604 = S 604 := by
  obtain ⟨r, S1, S2, p1, p2, p3, p4, p5, p6, p7, p8, p9⟩ := hp
  have p66 : S1 604 1 = S 604 1 := by rw [p6]
  have x1 : ((i : Int) + 1).toNat = i + 1 := by omega
  have x2 : ((i : Int) + 2).toNat = i + 2 := by omega
  have x3 : ((i : Int) + 3).toNat = i + 3 := by omega
  obtain ⟨r1, r2⟩ := p2
  refine ⟨S2, ?_, p4, p7, p8, p9⟩
  clear hx
  rw [eL_law_18]
  simp (disch := omega) only [eL_law_19, eL_law_20, eL_law_20x, eL_law_20y, eL_law_21, eL_law_22, eL_law_23, eL_law_26, eL_law_27, eL_law_28, eL_law_28x, eL_law_28y, eL_law_29, eL_law_31, eL_law_32, if_pos, if_neg, if_true, if_false, Option.bind_some, Option.toList_some, Option.toList_none, List.cons_append, List.nil_append, Int.toNat_natCast, hc]
  simp (disch := omega) only [eL_law_410, eL_law_411, eL_law_412, eL_law_413, eL_law_414, eL_law_415, eL_law_415x, eL_law_415y, eL_law_416, eL_law_417, eL_law_418, eL_law_419, eL_law_420, eL_law_420x, eL_law_420y, eL_law_421, eL_law_424, eL_law_425, eL_law_426, eL_law_427, eL_law_428, eL_law_429, eL_law_429x, eL_law_429y, eL_law_430, eL_law_431, eL_law_432, eL_law_433, eL_law_434, eL_law_434x, eL_law_434y, eL_law_435, eL_law_438, eL_law_441, eL_law_442, eL_law_739, eL_law_742, if_pos, if_neg, if_true, if_false, Option.bind_some, Option.toList_some, Option.toList_none, List.cons_append, List.nil_append, x1, x2, x3, p1, p3, p5, p6]
  rw [show ((i : Int) + 4) = ((i + 4 : Nat) : Int) by omega]
theorem law_count {i : Nat} (hc : S 603 i % 32 = 11) (h : (i : Int) + 4 ≤ S 604 1) (hL : 0 ≤ S 604 1 ∧ S 604 1 ≤ 2048) (hx : ∀ j : Nat, (j : Int) < S 604 1 → rng (S 603 j)) (hp : Pair fX8_count fX9_count [vI (S 603 (i + 1))] S) : ∃ S2, rn xL_law (18, [some (vR 603), some (vR 0), some (vR 593), some (vI (i : Int))], [], S) = rn xL_law (18, [some (vR 603), some (vR 0), some (vR 593), some (vI ((i + 4 : Nat) : Int))], [], S2) ∧ Rel S2 ∧ S2 602 = S 602 ∧ S2 603 = S 603 ∧ S2 604 = S 604 := by
  obtain ⟨r, S1, S2, p1, p2, p3, p4, p5, p6, p7, p8, p9⟩ := hp
  have p66 : S1 604 1 = S 604 1 := by rw [p6]
  have x1 : ((i : Int) + 1).toNat = i + 1 := by omega
  have x2 : ((i : Int) + 2).toNat = i + 2 := by omega
  have x3 : ((i : Int) + 3).toNat = i + 3 := by omega
  obtain ⟨r1, r2⟩ := p2
  refine ⟨S2, ?_, p4, p7, p8, p9⟩
  clear hx
  rw [eL_law_18]
  simp (disch := omega) only [eL_law_19, eL_law_20, eL_law_20x, eL_law_20y, eL_law_21, eL_law_22, eL_law_23, eL_law_26, eL_law_27, eL_law_28, eL_law_28x, eL_law_28y, eL_law_29, eL_law_31, eL_law_32, if_pos, if_neg, if_true, if_false, Option.bind_some, Option.toList_some, Option.toList_none, List.cons_append, List.nil_append, Int.toNat_natCast, hc]
  simp (disch := omega) only [eL_law_443, eL_law_444, eL_law_445, eL_law_446, eL_law_447, eL_law_448, eL_law_448x, eL_law_448y, eL_law_449, eL_law_452, eL_law_453, eL_law_454, eL_law_455, eL_law_456, eL_law_457, eL_law_457x, eL_law_457y, eL_law_458, eL_law_461, eL_law_464, eL_law_465, eL_law_739, eL_law_742, if_pos, if_neg, if_true, if_false, Option.bind_some, Option.toList_some, Option.toList_none, List.cons_append, List.nil_append, x1, x2, x3, p1, p3, p5, p6]
  rw [show ((i : Int) + 4) = ((i + 4 : Nat) : Int) by omega]
theorem law_walking {i : Nat} (hc : S 603 i % 32 = 12) (h : (i : Int) + 4 ≤ S 604 1) (hL : 0 ≤ S 604 1 ∧ S 604 1 ≤ 2048) (hx : ∀ j : Nat, (j : Int) < S 604 1 → rng (S 603 j)) (hp : Pair fX8_walking fX9_walking [vI (S 603 (i + 1))] S) : ∃ S2, rn xL_law (18, [some (vR 603), some (vR 0), some (vR 593), some (vI (i : Int))], [], S) = rn xL_law (18, [some (vR 603), some (vR 0), some (vR 593), some (vI ((i + 4 : Nat) : Int))], [], S2) ∧ Rel S2 ∧ S2 602 = S 602 ∧ S2 603 = S 603 ∧ S2 604 = S 604 := by
  obtain ⟨r, S1, S2, p1, p2, p3, p4, p5, p6, p7, p8, p9⟩ := hp
  have p66 : S1 604 1 = S 604 1 := by rw [p6]
  have x1 : ((i : Int) + 1).toNat = i + 1 := by omega
  have x2 : ((i : Int) + 2).toNat = i + 2 := by omega
  have x3 : ((i : Int) + 3).toNat = i + 3 := by omega
  obtain ⟨r1, r2⟩ := p2
  refine ⟨S2, ?_, p4, p7, p8, p9⟩
  clear hx
  rw [eL_law_18]
  simp (disch := omega) only [eL_law_19, eL_law_20, eL_law_20x, eL_law_20y, eL_law_21, eL_law_22, eL_law_23, eL_law_26, eL_law_27, eL_law_28, eL_law_28x, eL_law_28y, eL_law_29, eL_law_31, eL_law_32, if_pos, if_neg, if_true, if_false, Option.bind_some, Option.toList_some, Option.toList_none, List.cons_append, List.nil_append, Int.toNat_natCast, hc]
  simp (disch := omega) only [eL_law_466, eL_law_467, eL_law_468, eL_law_469, eL_law_470, eL_law_471, eL_law_471x, eL_law_471y, eL_law_472, eL_law_475, eL_law_476, eL_law_477, eL_law_478, eL_law_479, eL_law_480, eL_law_480x, eL_law_480y, eL_law_481, eL_law_484, eL_law_487, eL_law_488, eL_law_739, eL_law_742, if_pos, if_neg, if_true, if_false, Option.bind_some, Option.toList_some, Option.toList_none, List.cons_append, List.nil_append, x1, x2, x3, p1, p3, p5, p6]
  rw [show ((i : Int) + 4) = ((i + 4 : Nat) : Int) by omega]
theorem law_runWith {i : Nat} (hc : S 603 i % 32 = 13) (h : (i : Int) + 4 ≤ S 604 1) (hL : 0 ≤ S 604 1 ∧ S 604 1 ≤ 2048) (hx : ∀ j : Nat, (j : Int) < S 604 1 → rng (S 603 j)) (hp : Pair fX8_runWith fX9_runWith [vI (S 603 (i + 1)), vI (S 603 (i + 2)), vI (S 603 (i + 3))] S) : ∃ S2, rn xL_law (18, [some (vR 603), some (vR 0), some (vR 593), some (vI (i : Int))], [], S) = rn xL_law (18, [some (vR 603), some (vR 0), some (vR 593), some (vI ((i + 4 : Nat) : Int))], [], S2) ∧ Rel S2 ∧ S2 602 = S 602 ∧ S2 603 = S 603 ∧ S2 604 = S 604 := by
  obtain ⟨r, S1, S2, p1, p2, p3, p4, p5, p6, p7, p8, p9⟩ := hp
  have p66 : S1 604 1 = S 604 1 := by rw [p6]
  have x1 : ((i : Int) + 1).toNat = i + 1 := by omega
  have x2 : ((i : Int) + 2).toNat = i + 2 := by omega
  have x3 : ((i : Int) + 3).toNat = i + 3 := by omega
  obtain ⟨r1, r2⟩ := p2
  refine ⟨S2, ?_, p4, p7, p8, p9⟩
  clear hx
  rw [eL_law_18]
  simp (disch := omega) only [eL_law_19, eL_law_20, eL_law_20x, eL_law_20y, eL_law_21, eL_law_22, eL_law_23, eL_law_26, eL_law_27, eL_law_28, eL_law_28x, eL_law_28y, eL_law_29, eL_law_31, eL_law_32, if_pos, if_neg, if_true, if_false, Option.bind_some, Option.toList_some, Option.toList_none, List.cons_append, List.nil_append, Int.toNat_natCast, hc]
  simp (disch := omega) only [eL_law_489, eL_law_490, eL_law_491, eL_law_492, eL_law_493, eL_law_494, eL_law_494x, eL_law_494y, eL_law_495, eL_law_496, eL_law_497, eL_law_498, eL_law_499, eL_law_499x, eL_law_499y, eL_law_500, eL_law_501, eL_law_502, eL_law_503, eL_law_504, eL_law_504x, eL_law_504y, eL_law_505, eL_law_508, eL_law_509, eL_law_510, eL_law_511, eL_law_512, eL_law_513, eL_law_513x, eL_law_513y, eL_law_514, eL_law_515, eL_law_516, eL_law_517, eL_law_518, eL_law_518x, eL_law_518y, eL_law_519, eL_law_520, eL_law_521, eL_law_522, eL_law_523, eL_law_523x, eL_law_523y, eL_law_524, eL_law_527, eL_law_530, eL_law_531, eL_law_739, eL_law_742, if_pos, if_neg, if_true, if_false, Option.bind_some, Option.toList_some, Option.toList_none, List.cons_append, List.nil_append, x1, x2, x3, p1, p3, p5, p6]
  rw [show ((i : Int) + 4) = ((i + 4 : Nat) : Int) by omega]
theorem law_cheapest {i : Nat} (hc : S 603 i % 32 = 14) (h : (i : Int) + 4 ≤ S 604 1) (hL : 0 ≤ S 604 1 ∧ S 604 1 ≤ 2048) (hx : ∀ j : Nat, (j : Int) < S 604 1 → rng (S 603 j)) (hp : Pair fX8_cheapest fX9_cheapest [vI (S 603 (i + 1))] S) : ∃ S2, rn xL_law (18, [some (vR 603), some (vR 0), some (vR 593), some (vI (i : Int))], [], S) = rn xL_law (18, [some (vR 603), some (vR 0), some (vR 593), some (vI ((i + 4 : Nat) : Int))], [], S2) ∧ Rel S2 ∧ S2 602 = S 602 ∧ S2 603 = S 603 ∧ S2 604 = S 604 := by
  obtain ⟨r, S1, S2, p1, p2, p3, p4, p5, p6, p7, p8, p9⟩ := hp
  have p66 : S1 604 1 = S 604 1 := by rw [p6]
  have x1 : ((i : Int) + 1).toNat = i + 1 := by omega
  have x2 : ((i : Int) + 2).toNat = i + 2 := by omega
  have x3 : ((i : Int) + 3).toNat = i + 3 := by omega
  obtain ⟨r1, r2⟩ := p2
  refine ⟨S2, ?_, p4, p7, p8, p9⟩
  clear hx
  rw [eL_law_18]
  simp (disch := omega) only [eL_law_19, eL_law_20, eL_law_20x, eL_law_20y, eL_law_21, eL_law_22, eL_law_23, eL_law_26, eL_law_27, eL_law_28, eL_law_28x, eL_law_28y, eL_law_29, eL_law_31, eL_law_32, if_pos, if_neg, if_true, if_false, Option.bind_some, Option.toList_some, Option.toList_none, List.cons_append, List.nil_append, Int.toNat_natCast, hc]
  simp (disch := omega) only [eL_law_532, eL_law_533, eL_law_534, eL_law_535, eL_law_536, eL_law_537, eL_law_537x, eL_law_537y, eL_law_538, eL_law_541, eL_law_542, eL_law_543, eL_law_544, eL_law_545, eL_law_546, eL_law_546x, eL_law_546y, eL_law_547, eL_law_550, eL_law_553, eL_law_554, eL_law_739, eL_law_742, if_pos, if_neg, if_true, if_false, Option.bind_some, Option.toList_some, Option.toList_none, List.cons_append, List.nil_append, x1, x2, x3, p1, p3, p5, p6]
  rw [show ((i : Int) + 4) = ((i + 4 : Nat) : Int) by omega]
theorem law_lostBy {i : Nat} (hc : S 603 i % 32 = 15) (h : (i : Int) + 4 ≤ S 604 1) (hL : 0 ≤ S 604 1 ∧ S 604 1 ≤ 2048) (hx : ∀ j : Nat, (j : Int) < S 604 1 → rng (S 603 j)) (hp : Pair fX8_lostBy fX9_lostBy [vI (S 603 (i + 1)), vI (S 603 (i + 2))] S) : ∃ S2, rn xL_law (18, [some (vR 603), some (vR 0), some (vR 593), some (vI (i : Int))], [], S) = rn xL_law (18, [some (vR 603), some (vR 0), some (vR 593), some (vI ((i + 4 : Nat) : Int))], [], S2) ∧ Rel S2 ∧ S2 602 = S 602 ∧ S2 603 = S 603 ∧ S2 604 = S 604 := by
  obtain ⟨r, S1, S2, p1, p2, p3, p4, p5, p6, p7, p8, p9⟩ := hp
  have p66 : S1 604 1 = S 604 1 := by rw [p6]
  have x1 : ((i : Int) + 1).toNat = i + 1 := by omega
  have x2 : ((i : Int) + 2).toNat = i + 2 := by omega
  have x3 : ((i : Int) + 3).toNat = i + 3 := by omega
  obtain ⟨r1, r2⟩ := p2
  refine ⟨S2, ?_, p4, p7, p8, p9⟩
  clear hx
  rw [eL_law_18]
  simp (disch := omega) only [eL_law_19, eL_law_20, eL_law_20x, eL_law_20y, eL_law_21, eL_law_22, eL_law_23, eL_law_26, eL_law_27, eL_law_28, eL_law_28x, eL_law_28y, eL_law_29, eL_law_31, eL_law_32, if_pos, if_neg, if_true, if_false, Option.bind_some, Option.toList_some, Option.toList_none, List.cons_append, List.nil_append, Int.toNat_natCast, hc]
  simp (disch := omega) only [eL_law_555, eL_law_556, eL_law_557, eL_law_558, eL_law_559, eL_law_560, eL_law_560x, eL_law_560y, eL_law_561, eL_law_562, eL_law_563, eL_law_564, eL_law_565, eL_law_565x, eL_law_565y, eL_law_566, eL_law_569, eL_law_570, eL_law_571, eL_law_572, eL_law_573, eL_law_574, eL_law_574x, eL_law_574y, eL_law_575, eL_law_576, eL_law_577, eL_law_578, eL_law_579, eL_law_579x, eL_law_579y, eL_law_580, eL_law_583, eL_law_586, eL_law_587, eL_law_739, eL_law_742, if_pos, if_neg, if_true, if_false, Option.bind_some, Option.toList_some, Option.toList_none, List.cons_append, List.nil_append, x1, x2, x3, p1, p3, p5, p6]
  rw [show ((i : Int) + 4) = ((i + 4 : Nat) : Int) by omega]
theorem law_wipe {i : Nat} (hc : S 603 i % 32 = 17) (h : (i : Int) + 4 ≤ S 604 1) (hL : 0 ≤ S 604 1 ∧ S 604 1 ≤ 2048) (hx : ∀ j : Nat, (j : Int) < S 604 1 → rng (S 603 j)) (hp : Pair fX8_wipe fX9_wipe [] S) : ∃ S2, rn xL_law (18, [some (vR 603), some (vR 0), some (vR 593), some (vI (i : Int))], [], S) = rn xL_law (18, [some (vR 603), some (vR 0), some (vR 593), some (vI ((i + 4 : Nat) : Int))], [], S2) ∧ Rel S2 ∧ S2 602 = S 602 ∧ S2 603 = S 603 ∧ S2 604 = S 604 := by
  obtain ⟨r, S1, S2, p1, p2, p3, p4, p5, p6, p7, p8, p9⟩ := hp
  have p66 : S1 604 1 = S 604 1 := by rw [p6]
  have x1 : ((i : Int) + 1).toNat = i + 1 := by omega
  have x2 : ((i : Int) + 2).toNat = i + 2 := by omega
  have x3 : ((i : Int) + 3).toNat = i + 3 := by omega
  obtain ⟨r1, r2⟩ := p2
  refine ⟨S2, ?_, p4, p7, p8, p9⟩
  clear hx
  rw [eL_law_18]
  simp (disch := omega) only [eL_law_19, eL_law_20, eL_law_20x, eL_law_20y, eL_law_21, eL_law_22, eL_law_23, eL_law_26, eL_law_27, eL_law_28, eL_law_28x, eL_law_28y, eL_law_29, eL_law_31, eL_law_32, if_pos, if_neg, if_true, if_false, Option.bind_some, Option.toList_some, Option.toList_none, List.cons_append, List.nil_append, Int.toNat_natCast, hc]
  simp (disch := omega) only [eL_law_641, eL_law_642, eL_law_645, eL_law_646, eL_law_649, eL_law_652, eL_law_653, eL_law_739, eL_law_742, if_pos, if_neg, if_true, if_false, Option.bind_some, Option.toList_some, Option.toList_none, List.cons_append, List.nil_append, x1, x2, x3, p1, p3, p5, p6]
  rw [show ((i : Int) + 4) = ((i + 4 : Nat) : Int) by omega]
theorem law_fault {i : Nat} (hc : S 603 i % 32 = 18) (h : (i : Int) + 4 ≤ S 604 1) (hL : 0 ≤ S 604 1 ∧ S 604 1 ≤ 2048) (hx : ∀ j : Nat, (j : Int) < S 604 1 → rng (S 603 j)) (hp : Pair fX8_fault fX9_fault [] S) : ∃ S2, rn xL_law (18, [some (vR 603), some (vR 0), some (vR 593), some (vI (i : Int))], [], S) = rn xL_law (18, [some (vR 603), some (vR 0), some (vR 593), some (vI ((i + 4 : Nat) : Int))], [], S2) ∧ Rel S2 ∧ S2 602 = S 602 ∧ S2 603 = S 603 ∧ S2 604 = S 604 := by
  obtain ⟨r, S1, S2, p1, p2, p3, p4, p5, p6, p7, p8, p9⟩ := hp
  have p66 : S1 604 1 = S 604 1 := by rw [p6]
  have x1 : ((i : Int) + 1).toNat = i + 1 := by omega
  have x2 : ((i : Int) + 2).toNat = i + 2 := by omega
  have x3 : ((i : Int) + 3).toNat = i + 3 := by omega
  obtain ⟨r1, r2⟩ := p2
  refine ⟨S2, ?_, p4, p7, p8, p9⟩
  clear hx
  rw [eL_law_18]
  simp (disch := omega) only [eL_law_19, eL_law_20, eL_law_20x, eL_law_20y, eL_law_21, eL_law_22, eL_law_23, eL_law_26, eL_law_27, eL_law_28, eL_law_28x, eL_law_28y, eL_law_29, eL_law_31, eL_law_32, if_pos, if_neg, if_true, if_false, Option.bind_some, Option.toList_some, Option.toList_none, List.cons_append, List.nil_append, Int.toNat_natCast, hc]
  simp (disch := omega) only [eL_law_654, eL_law_655, eL_law_658, eL_law_659, eL_law_662, eL_law_665, eL_law_666, eL_law_739, eL_law_742, if_pos, if_neg, if_true, if_false, Option.bind_some, Option.toList_some, Option.toList_none, List.cons_append, List.nil_append, x1, x2, x3, p1, p3, p5, p6]
  rw [show ((i : Int) + 4) = ((i + 4 : Nat) : Int) by omega]
theorem law_carryOut {i : Nat} (hc : S 603 i % 32 = 19) (h : (i : Int) + 4 ≤ S 604 1) (hL : 0 ≤ S 604 1 ∧ S 604 1 ≤ 2048) (hx : ∀ j : Nat, (j : Int) < S 604 1 → rng (S 603 j)) (hp : Pair fX8_carryOut fX9_carryOut [] S) : ∃ S2, rn xL_law (18, [some (vR 603), some (vR 0), some (vR 593), some (vI (i : Int))], [], S) = rn xL_law (18, [some (vR 603), some (vR 0), some (vR 593), some (vI ((i + 4 : Nat) : Int))], [], S2) ∧ Rel S2 ∧ S2 602 = S 602 ∧ S2 603 = S 603 ∧ S2 604 = S 604 := by
  obtain ⟨r, S1, S2, p1, p2, p3, p4, p5, p6, p7, p8, p9⟩ := hp
  have p66 : S1 604 1 = S 604 1 := by rw [p6]
  have x1 : ((i : Int) + 1).toNat = i + 1 := by omega
  have x2 : ((i : Int) + 2).toNat = i + 2 := by omega
  have x3 : ((i : Int) + 3).toNat = i + 3 := by omega
  obtain ⟨r1, r2⟩ := p2
  refine ⟨S2, ?_, p4, p7, p8, p9⟩
  clear hx
  rw [eL_law_18]
  simp (disch := omega) only [eL_law_19, eL_law_20, eL_law_20x, eL_law_20y, eL_law_21, eL_law_22, eL_law_23, eL_law_26, eL_law_27, eL_law_28, eL_law_28x, eL_law_28y, eL_law_29, eL_law_31, eL_law_32, if_pos, if_neg, if_true, if_false, Option.bind_some, Option.toList_some, Option.toList_none, List.cons_append, List.nil_append, Int.toNat_natCast, hc]
  simp (disch := omega) only [eL_law_667, eL_law_668, eL_law_671, eL_law_672, eL_law_675, eL_law_678, eL_law_679, eL_law_739, eL_law_742, if_pos, if_neg, if_true, if_false, Option.bind_some, Option.toList_some, Option.toList_none, List.cons_append, List.nil_append, x1, x2, x3, p1, p3, p5, p6]
  rw [show ((i : Int) + 4) = ((i + 4 : Nat) : Int) by omega]
theorem law_undo {i : Nat} (hc : S 603 i % 32 = 20) (h : (i : Int) + 4 ≤ S 604 1) (hL : 0 ≤ S 604 1 ∧ S 604 1 ≤ 2048) (hx : ∀ j : Nat, (j : Int) < S 604 1 → rng (S 603 j)) (hp : Pair fX8_undo fX9_undo [] S) : ∃ S2, rn xL_law (18, [some (vR 603), some (vR 0), some (vR 593), some (vI (i : Int))], [], S) = rn xL_law (18, [some (vR 603), some (vR 0), some (vR 593), some (vI ((i + 4 : Nat) : Int))], [], S2) ∧ Rel S2 ∧ S2 602 = S 602 ∧ S2 603 = S 603 ∧ S2 604 = S 604 := by
  obtain ⟨r, S1, S2, p1, p2, p3, p4, p5, p6, p7, p8, p9⟩ := hp
  have p66 : S1 604 1 = S 604 1 := by rw [p6]
  have x1 : ((i : Int) + 1).toNat = i + 1 := by omega
  have x2 : ((i : Int) + 2).toNat = i + 2 := by omega
  have x3 : ((i : Int) + 3).toNat = i + 3 := by omega
  obtain ⟨r1, r2⟩ := p2
  refine ⟨S2, ?_, p4, p7, p8, p9⟩
  clear hx
  rw [eL_law_18]
  simp (disch := omega) only [eL_law_19, eL_law_20, eL_law_20x, eL_law_20y, eL_law_21, eL_law_22, eL_law_23, eL_law_26, eL_law_27, eL_law_28, eL_law_28x, eL_law_28y, eL_law_29, eL_law_31, eL_law_32, if_pos, if_neg, if_true, if_false, Option.bind_some, Option.toList_some, Option.toList_none, List.cons_append, List.nil_append, Int.toNat_natCast, hc]
  simp (disch := omega) only [eL_law_680, eL_law_681, eL_law_684, eL_law_685, eL_law_688, eL_law_691, eL_law_692, eL_law_739, eL_law_742, if_pos, if_neg, if_true, if_false, Option.bind_some, Option.toList_some, Option.toList_none, List.cons_append, List.nil_append, x1, x2, x3, p1, p3, p5, p6]
  rw [show ((i : Int) + 4) = ((i + 4 : Nat) : Int) by omega]
theorem law_save {i : Nat} (hc : S 603 i % 32 = 21) (h : (i : Int) + 4 ≤ S 604 1) (hL : 0 ≤ S 604 1 ∧ S 604 1 ≤ 2048) (hx : ∀ j : Nat, (j : Int) < S 604 1 → rng (S 603 j)) (hp : Pair fX8_save fX9_save [vI (S 603 (i + 1))] S) : ∃ S2, rn xL_law (18, [some (vR 603), some (vR 0), some (vR 593), some (vI (i : Int))], [], S) = rn xL_law (18, [some (vR 603), some (vR 0), some (vR 593), some (vI ((i + 4 : Nat) : Int))], [], S2) ∧ Rel S2 ∧ S2 602 = S 602 ∧ S2 603 = S 603 ∧ S2 604 = S 604 := by
  obtain ⟨r, S1, S2, p1, p2, p3, p4, p5, p6, p7, p8, p9⟩ := hp
  have p66 : S1 604 1 = S 604 1 := by rw [p6]
  have x1 : ((i : Int) + 1).toNat = i + 1 := by omega
  have x2 : ((i : Int) + 2).toNat = i + 2 := by omega
  have x3 : ((i : Int) + 3).toNat = i + 3 := by omega
  obtain ⟨r1, r2⟩ := p2
  refine ⟨S2, ?_, p4, p7, p8, p9⟩
  clear hx
  rw [eL_law_18]
  simp (disch := omega) only [eL_law_19, eL_law_20, eL_law_20x, eL_law_20y, eL_law_21, eL_law_22, eL_law_23, eL_law_26, eL_law_27, eL_law_28, eL_law_28x, eL_law_28y, eL_law_29, eL_law_31, eL_law_32, if_pos, if_neg, if_true, if_false, Option.bind_some, Option.toList_some, Option.toList_none, List.cons_append, List.nil_append, Int.toNat_natCast, hc]
  simp (disch := omega) only [eL_law_693, eL_law_694, eL_law_695, eL_law_696, eL_law_697, eL_law_698, eL_law_698x, eL_law_698y, eL_law_699, eL_law_702, eL_law_703, eL_law_704, eL_law_705, eL_law_706, eL_law_707, eL_law_707x, eL_law_707y, eL_law_708, eL_law_711, eL_law_714, eL_law_715, eL_law_739, eL_law_742, if_pos, if_neg, if_true, if_false, Option.bind_some, Option.toList_some, Option.toList_none, List.cons_append, List.nil_append, x1, x2, x3, p1, p3, p5, p6]
  rw [show ((i : Int) + 4) = ((i + 4 : Nat) : Int) by omega]
theorem law_restore {i : Nat} (hc : S 603 i % 32 = 22) (h : (i : Int) + 4 ≤ S 604 1) (hL : 0 ≤ S 604 1 ∧ S 604 1 ≤ 2048) (hx : ∀ j : Nat, (j : Int) < S 604 1 → rng (S 603 j)) (hp : Pair fX8_restore fX9_restore [vI (S 603 (i + 1))] S) : ∃ S2, rn xL_law (18, [some (vR 603), some (vR 0), some (vR 593), some (vI (i : Int))], [], S) = rn xL_law (18, [some (vR 603), some (vR 0), some (vR 593), some (vI ((i + 4 : Nat) : Int))], [], S2) ∧ Rel S2 ∧ S2 602 = S 602 ∧ S2 603 = S 603 ∧ S2 604 = S 604 := by
  obtain ⟨r, S1, S2, p1, p2, p3, p4, p5, p6, p7, p8, p9⟩ := hp
  have p66 : S1 604 1 = S 604 1 := by rw [p6]
  have x1 : ((i : Int) + 1).toNat = i + 1 := by omega
  have x2 : ((i : Int) + 2).toNat = i + 2 := by omega
  have x3 : ((i : Int) + 3).toNat = i + 3 := by omega
  obtain ⟨r1, r2⟩ := p2
  refine ⟨S2, ?_, p4, p7, p8, p9⟩
  clear hx
  rw [eL_law_18]
  simp (disch := omega) only [eL_law_19, eL_law_20, eL_law_20x, eL_law_20y, eL_law_21, eL_law_22, eL_law_23, eL_law_26, eL_law_27, eL_law_28, eL_law_28x, eL_law_28y, eL_law_29, eL_law_31, eL_law_32, if_pos, if_neg, if_true, if_false, Option.bind_some, Option.toList_some, Option.toList_none, List.cons_append, List.nil_append, Int.toNat_natCast, hc]
  simp (disch := omega) only [eL_law_716, eL_law_717, eL_law_718, eL_law_719, eL_law_720, eL_law_721, eL_law_721x, eL_law_721y, eL_law_722, eL_law_725, eL_law_726, eL_law_727, eL_law_728, eL_law_729, eL_law_730, eL_law_730x, eL_law_730y, eL_law_731, eL_law_734, eL_law_737, eL_law_738, eL_law_739, eL_law_742, if_pos, if_neg, if_true, if_false, Option.bind_some, Option.toList_some, Option.toList_none, List.cons_append, List.nil_append, x1, x2, x3, p1, p3, p5, p6]
  rw [show ((i : Int) + 4) = ((i + 4 : Nat) : Int) by omega]
theorem law_put {i : Nat} {a b u v w : Nat} (hc : S 603 i % 32 = 16) (h : (i : Int) + 4 ≤ S 604 1) (hL : 0 ≤ S 604 1 ∧ S 604 1 ≤ 2048) (h1 : -2147483648 ≤ S 603 (i + 1) ∧ S 603 (i + 1) ≤ 2147483647) (h2 : -2147483648 ≤ S 603 (i + 2) ∧ S 603 (i + 2) ≤ 2147483647) (hp : Pair fX8_put fX9_put [vJ u] S) : (S 603 (i + 1) % 18446744073709551616).toNat = a → (S 603 (i + 2) % 18446744073709551616).toNat = b → a * 2 ^ (32 : Int).toNat % 18446744073709551616 = v → b &&& 4294967295 = w → v ||| w = u → a < 18446744073709551616 → b < 18446744073709551616 → v < 18446744073709551616 → w < 18446744073709551616 → ∃ S2, rn xL_law (18, [some (vR 603), some (vR 0), some (vR 593), some (vI (i : Int))], [], S) = rn xL_law (18, [some (vR 603), some (vR 0), some (vR 593), some (vI ((i + 4 : Nat) : Int))], [], S2) ∧ Rel S2 ∧ S2 602 = S 602 ∧ S2 603 = S 603 ∧ S2 604 = S 604 := by
  obtain ⟨r, S1, S2, p1, p2, p3, p4, p5, p6, p7, p8, p9⟩ := hp
  have p66 : S1 604 1 = S 604 1 := by rw [p6]
  have x1 : ((i : Int) + 1).toNat = i + 1 := by omega
  have x2 : ((i : Int) + 2).toNat = i + 2 := by omega
  have y1 : 0 ≤ (i : Int) + 1 := by omega
  have y2 : 0 ≤ (i : Int) + 2 := by omega
  have y3 : (i : Int) + 1 < S 604 1 := by omega
  have y4 : (i : Int) + 2 < S 604 1 := by omega
  have y5 : (i : Int) + 1 < S1 604 1 := by omega
  have y6 : (i : Int) + 2 < S1 604 1 := by omega
  have q0 : (0 : Int) ≤ 32 := by decide
  have q1 : (32 : Int) < 64 := by decide
  have q2 : 4294967295 < 18446744073709551616 := by decide
  have p2 : -2147483648 ≤ r ∧ r ≤ 2147483647 := p2
  have hP : rn xL_law (18, [some (vR 603), some (vR 0), some (vR 593), some (vI (i : Int))], [], S) = rn xL_law (588, [some (vR 603), some (vR 0), some (vR 593), some (vI (i : Int))], [], S) := by
    rw [eL_law_18]
    simp (disch := omega) only [eL_law_19, eL_law_20, eL_law_20x, eL_law_20y, eL_law_21, eL_law_22, eL_law_23, eL_law_26, eL_law_27, eL_law_28, eL_law_28x, eL_law_28y, eL_law_29, eL_law_31, eL_law_32, if_pos, if_neg, if_true, if_false, Option.bind_some, Option.toList_some, Option.toList_none, List.cons_append, List.nil_append, Int.toNat_natCast, hc]
  intro ha hb hv hw hu b1 b2 b3 b4
  refine ⟨S2, ?_, p4, p7, p8, p9⟩
  rw [hP]
  simp (disch := assumption) only [eL_law_588, eL_law_589, eL_law_590, eL_law_591, eL_law_592, eL_law_593, eL_law_593x, eL_law_593y, eL_law_594, eL_law_595, eL_law_597, eL_law_598, eL_law_599, eL_law_600, eL_law_601, eL_law_602, eL_law_602x, eL_law_602y, eL_law_603, eL_law_604, eL_law_607, eL_law_608, eL_law_609, eL_law_612, eL_law_613, eL_law_614, eL_law_615, eL_law_616, eL_law_617, eL_law_617x, eL_law_617y, eL_law_618, eL_law_619, eL_law_621, eL_law_622, eL_law_623, eL_law_624, eL_law_625, eL_law_626, eL_law_626x, eL_law_626y, eL_law_627, eL_law_628, eL_law_631, eL_law_632, eL_law_633, eL_law_636, eL_law_639, eL_law_640, eL_law_739, eL_law_742, Option.bind_some, Option.toList_some, List.cons_append, List.nil_append, x1, x2, p5, p6, ha, hb, hv, hw, hu, p1, p3, if_true]
  rw [show ((i : Int) + 4) = ((i + 4 : Nat) : Int) by omega]
theorem law_none {i : Nat} (hc : ¬ S 603 i % 32 < 23) (h : (i : Int) + 4 ≤ S 604 1) (hL : 0 ≤ S 604 1 ∧ S 604 1 ≤ 2048) : rn xL_law (18, [some (vR 603), some (vR 0), some (vR 593), some (vI (i : Int))], [], S) = rn xL_law (18, [some (vR 603), some (vR 0), some (vR 593), some (vI ((i + 4 : Nat) : Int))], [], S) := by
  rw [eL_law_18]
  simp (disch := omega) only [eL_law_19, eL_law_20, eL_law_20x, eL_law_20y, eL_law_21, eL_law_22, eL_law_23, eL_law_26, eL_law_27, eL_law_28, eL_law_28x, eL_law_28y, eL_law_29, eL_law_31, eL_law_32, eL_law_739, eL_law_742, if_pos, if_neg, if_true, if_false, Option.bind_some, Option.toList_some, Option.toList_none, List.cons_append, List.nil_append, Int.toNat_natCast]
  rw [show ((i : Int) + 4) = ((i + 4 : Nat) : Int) by omega]
end LAWL
