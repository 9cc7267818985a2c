/-! the law's acts -/
section LAW11
variable {S S' : MM} {A A' : Nat → Int} {m : Nat} {H : Nat → Nat → Int} {K : Nat → Int} {V : Nat → Nat → Int} {P : Nat → Int} {n : Nat} {wd v x y key : Int} {w : Nat}
theorem k_up {a b : Int} (hb : 0 < b ∧ b ≤ 2147483647) : kp fL_up [vI a, vI b] S = some (some (vI (a % 2147483648 % b)), S) := kp_id (s_up hb)
theorem kfr {f : FN} {as : List VV} {r : Option VV} (h : f as S = some (r, S')) (g : fr S S') : kp f as S = some (r, S') := kp_of h (g 604 (by decide))
theorem LWs.lx (h : LWs S A m H K V P n) : LX S A K V := ⟨_, _, _, _, h⟩
theorem lay_R {t : Int} (hk : 0 ≤ key) (k : Nat) : RA (mLay A (w : Int) key t) w k = up (RA A w) key.toNat t k := by
  show up A (25 + 300 * ((w : Int)).toNat + key.toNat) t (25 + 300 * w + k) = if k = key.toNat then t else A (25 + 300 * w + k)
  rw [Int.toNat_natCast, up_at]
  by_cases q : k = key.toNat
  · rw [if_pos (by omega), if_pos q]
  · rw [if_neg (by omega), if_neg q]
theorem a_stone (h : LWs S A m H K V P n) (hw : w < 3) (hk : 0 ≤ key ∧ key ≤ 299) (hx : -2147483648 ≤ x ∧ x ≤ 2147483647) (hy : -2147483648 ≤ y ∧ y ≤ 2147483647) : ∃ (S' : MM) (A' : Nat → Int), rn xL_act (92, [some (vR 0), some (vI wd), some (vI v), some (vI x), some (vI y), some (vI (w : Int)), some (vI key), none, none, none, none, none, none, none], [], S) = some (some (vI 1), S') ∧ LX S' A' K V ∧ gf S S' := by
  have ha := h.1.aok
  have hrb := ha.2.1 w key.toNat hw (by omega)
  have hc40 := ha.2.2.1 w hw
  have e1 := kp_id (s_repeats h.1 hw (key := key.toNat) (by omega))
  rw [Int.toNat_of_nonneg hk.1] at e1
  have e2 := kp_id (r_w h.1 (w := w) (k := 0) hw (by omega))
  rw [ofW_0 hw] at e2
  by_cases q : cnt (RA A w) 300 < 40 ∨ 0 < RA A w key.toNat
  · obtain ⟨S1, e3, L1, g1⟩ := o_stone h hw hk (t := 1 + y % 2147483648 % 9) (by omega) q
    have e3 := kfr e3 g1
    have f1 := kp_id (s_repeats L1.1 hw (key := key.toNat) (by omega))
    rw [Int.toNat_of_nonneg hk.1, lay_R hk.1, up_eq] at f1
    have f2 := kp_id (r_w L1.1 (w := w) (k := 0) hw (by omega))
    rw [ofW_0 hw, cnt_congr (r := RA (mLay A (w : Int) key (1 + y % 2147483648 % 9)) w) (r' := up (RA A w) key.toNat (1 + y % 2147483648 % 9)) (fun k _ => by rw [lay_R hk.1])] at f2
    refine ⟨S1, _, ?_, L1.lx, g1.gf⟩
    by_cases q0 : 0 < RA A w key.toNat
    · rw [cnt_up1 (by omega) q0] at f2
      simp (disch := omega) only [eL_act_92, eL_act_93, eL_act_95, eL_act_97, eL_act_100, eL_act_102, eL_act_103, eL_act_105, eL_act_107, eL_act_110, eL_act_111, eL_act_113, eL_act_114, eL_act_116, eL_act_117, eL_act_120, eL_act_122, eL_act_124, eL_act_127, eL_act_129, eL_act_131, eL_act_134, eL_act_135, eL_act_137, eL_act_139, eL_act_141, eL_act_144, eL_act_146, eL_act_149, eL_act_150, eL_act_153, eL_act_154, eL_act_155, eL_act_156, eL_act_158, eL_act_160, eL_act_162, eL_act_165, eL_act_167, eL_act_170, eL_act_171, eL_act_173, eL_act_175, eL_act_178, eL_act_180, eL_act_183, eL_act_184, eL_act_186, eL_act_187, eL_act_190, eL_act_192, eL_act_194, eL_act_197, eL_act_198, eL_act_201, eL_act_202, eL_act_203, eL_act_206, eL_act_207, eL_act_210, eL_act_211, if_pos, if_neg, if_true, if_false, Option.bind_some, Option.toList_some, Option.toList_none, List.cons_append, List.nil_append, e1, e2, e3, f1, f2, k_up]
    · have q1 : RA A w key.toNat = 0 := by omega
      rw [cnt_up0 (by omega) q0, if_pos (by omega)] at f2
      rw [q1] at e1 e3
      have q2 : cnt (RA A w) 300 < 40 := by omega
      simp (disch := omega) only [eL_act_92, eL_act_93, eL_act_95, eL_act_97, eL_act_100, eL_act_102, eL_act_103, eL_act_105, eL_act_107, eL_act_110, eL_act_111, eL_act_113, eL_act_114, eL_act_116, eL_act_117, eL_act_120, eL_act_122, eL_act_124, eL_act_127, eL_act_129, eL_act_131, eL_act_134, eL_act_135, eL_act_137, eL_act_139, eL_act_141, eL_act_144, eL_act_146, eL_act_149, eL_act_150, eL_act_153, eL_act_154, eL_act_155, eL_act_156, eL_act_158, eL_act_160, eL_act_162, eL_act_165, eL_act_167, eL_act_170, eL_act_171, eL_act_173, eL_act_175, eL_act_178, eL_act_180, eL_act_183, eL_act_184, eL_act_186, eL_act_187, eL_act_190, eL_act_192, eL_act_194, eL_act_197, eL_act_198, eL_act_201, eL_act_202, eL_act_203, eL_act_206, eL_act_207, eL_act_210, eL_act_211, if_pos, if_neg, if_true, if_false, Option.bind_some, Option.toList_some, Option.toList_none, List.cons_append, List.nil_append, e1, e2, e3, f1, f2, k_up]
  · have e3 := kp_id (o_stoneT h hw hk (t := 1 + y % 2147483648 % 9) (by omega) q)
    have q0 : RA A w key.toNat = 0 := by omega
    have q1 : cnt (RA A w) 300 = 40 := by omega
    rw [q0] at e1
    rw [q1] at e2
    refine ⟨S, A, ?_, h.lx, fr.refl.gf⟩
    simp (disch := omega) only [eL_act_92, eL_act_93, eL_act_95, eL_act_97, eL_act_100, eL_act_102, eL_act_103, eL_act_105, eL_act_107, eL_act_110, eL_act_111, eL_act_113, eL_act_114, eL_act_116, eL_act_117, eL_act_120, eL_act_122, eL_act_124, eL_act_127, eL_act_129, eL_act_131, eL_act_134, eL_act_135, eL_act_137, eL_act_139, eL_act_141, eL_act_144, eL_act_146, eL_act_149, eL_act_150, eL_act_153, eL_act_154, eL_act_155, eL_act_156, eL_act_158, eL_act_160, eL_act_162, eL_act_165, eL_act_167, eL_act_170, eL_act_171, eL_act_173, eL_act_175, eL_act_178, eL_act_180, eL_act_183, eL_act_184, eL_act_186, eL_act_187, eL_act_190, eL_act_192, eL_act_194, eL_act_197, eL_act_198, eL_act_201, eL_act_202, eL_act_203, eL_act_206, eL_act_207, eL_act_210, eL_act_211, if_pos, if_neg, if_true, if_false, Option.bind_some, Option.toList_some, Option.toList_none, List.cons_append, List.nil_append, e1, e2, e3, k_up]
theorem l_acF {who to : Int} (h : LWs S A m H K V P n) (h3 : S 604 3 = 0) (hw : w < 3) (hk : 0 ≤ key ∧ key ≤ 299) (hwho : who = -6 ∨ (0 ≤ who ∧ who ≤ 2)) (hto : key ≤ to ∧ to ≤ 400) : ∃ (S' : MM) (A' : Nat → Int), rn xL_act (260, [some (vR 0), some (vI wd), some (vI v), some (vI x), some (vI y), some (vI (w : Int)), some (vI key), some (vI who), some (vI to), none, none, none, none, none], [], S) = some (some (vI 1), S') ∧ LX S' A' K V ∧ gf S S' := by
  by_cases q : 299 < to
  · have e := kp_id (s_floodX (S := S) (w := who) (a := key) (b := to) (by omega) (by omega) (by omega) (by unfold errFl; rw [if_neg (by omega), if_neg (by omega)]; decide))
    have e0 : errFl who key to = -2 := by unfold errFl; rw [if_neg (by omega), if_neg (by omega)]
    rw [e0] at e
    refine ⟨S, A, ?_, h.lx, fr.refl.gf⟩
    simp (disch := omega) only [eL_act_260, eL_act_262, eL_act_265, eL_act_268, eL_act_269, eL_act_271, eL_act_273, eL_act_275, eL_act_278, eL_act_280, eL_act_283, eL_act_284, eL_act_287, eL_act_288, eL_act_289, eL_act_290, eL_act_292, eL_act_294, eL_act_296, eL_act_299, if_pos, if_neg, if_true, if_false, Option.bind_some, Option.toList_some, Option.toList_none, List.cons_append, List.nil_append, e]
  · obtain ⟨S1, e1, L1, g1⟩ := t_flood h h3 (w0 := who) (a := key) (b := to) hk (by omega) hwho
    refine ⟨S1, _, ?_, L1.lx, g1⟩
    simp (disch := omega) only [eL_act_260, eL_act_262, eL_act_265, eL_act_268, eL_act_269, eL_act_271, eL_act_273, eL_act_275, eL_act_278, eL_act_280, eL_act_283, eL_act_284, eL_act_287, eL_act_288, eL_act_289, eL_act_290, eL_act_292, eL_act_294, eL_act_296, eL_act_299, if_pos, if_neg, if_true, if_false, Option.bind_some, Option.toList_some, Option.toList_none, List.cons_append, List.nil_append, e1]
theorem a_flood (h : LWs S A m H K V P n) (hw : w < 3) (hk : 0 ≤ key ∧ key ≤ 299) (hx : -2147483648 ≤ x ∧ x ≤ 2147483647) (hy : -2147483648 ≤ y ∧ y ≤ 2147483647) (h3 : S 604 3 = 0) : ∃ (S' : MM) (A' : Nat → Int), rn xL_act (212, [some (vR 0), some (vI wd), some (vI v), some (vI x), some (vI y), some (vI (w : Int)), some (vI key), none, none, none, none, none, none, none], [], S) = some (some (vI 1), S') ∧ LX S' A' K V ∧ gf S S' := by
  obtain ⟨S1, A1, i1, L1, g1⟩ := l_acF (wd := wd) (v := v) (x := x) (y := y) (who := if y % 2147483648 % 3 = 0 then -6 else (w : Int)) (to := key + (y / 4) % 2147483648 % (if y / 512 % 2147483648 % 3 = 0 then 20 else 3)) h h3 hw hk (by split <;> omega) (by split <;> omega)
  refine ⟨S1, A1, ?_, L1, g1⟩
  rw [← i1]
  by_cases q1 : y % 2147483648 % 3 = 0
  · by_cases q2 : y / 512 % 2147483648 % 3 = 0
    · simp (disch := omega) only [eL_act_212, eL_act_214, eL_act_215, eL_act_218, eL_act_221, eL_act_223, eL_act_226, eL_act_228, eL_act_230, eL_act_232, eL_act_234, eL_act_235, eL_act_236, eL_act_238, eL_act_240, eL_act_241, eL_act_242, eL_act_245, eL_act_248, eL_act_250, eL_act_253, eL_act_254, eL_act_257, eL_act_258, if_pos, if_neg, if_true, if_false, Option.bind_some, Option.toList_some, Option.toList_none, List.cons_append, List.nil_append, k_up]
    · simp (disch := omega) only [eL_act_212, eL_act_214, eL_act_215, eL_act_218, eL_act_221, eL_act_223, eL_act_226, eL_act_228, eL_act_230, eL_act_232, eL_act_234, eL_act_235, eL_act_236, eL_act_238, eL_act_240, eL_act_241, eL_act_242, eL_act_245, eL_act_248, eL_act_250, eL_act_253, eL_act_254, eL_act_257, eL_act_258, if_pos, if_neg, if_true, if_false, Option.bind_some, Option.toList_some, Option.toList_none, List.cons_append, List.nil_append, k_up]
  · by_cases q2 : y / 512 % 2147483648 % 3 = 0
    · simp (disch := omega) only [eL_act_212, eL_act_214, eL_act_215, eL_act_218, eL_act_221, eL_act_223, eL_act_226, eL_act_228, eL_act_230, eL_act_232, eL_act_234, eL_act_235, eL_act_236, eL_act_238, eL_act_240, eL_act_241, eL_act_242, eL_act_245, eL_act_248, eL_act_250, eL_act_253, eL_act_254, eL_act_257, eL_act_258, if_pos, if_neg, if_true, if_false, Option.bind_some, Option.toList_some, Option.toList_none, List.cons_append, List.nil_append, k_up]
    · simp (disch := omega) only [eL_act_212, eL_act_214, eL_act_215, eL_act_218, eL_act_221, eL_act_223, eL_act_226, eL_act_228, eL_act_230, eL_act_232, eL_act_234, eL_act_235, eL_act_236, eL_act_238, eL_act_240, eL_act_241, eL_act_242, eL_act_245, eL_act_248, eL_act_250, eL_act_253, eL_act_254, eL_act_257, eL_act_258, if_pos, if_neg, if_true, if_false, Option.bind_some, Option.toList_some, Option.toList_none, List.cons_append, List.nil_append, k_up]
theorem dry_cnt (ha : AOk A) {u : Nat} (hu : u < 3) : cnt (RA (mDry A) u) 300 = cnt (RA A u) 300 + cnt (adds (RA A u) (tk A u)) 300 ∧ cnt (adds (RA A u) (tk A u)) 300 ≤ cnt (tk A u) 300 := by
  refine ⟨?_, cnt_sub (fun k _ hp => ?_)⟩
  · rw [cnt_congr (r := RA (mDry A) u) (r' := mrg (RA A u) (tk A u)) (fun k hk => by rw [mDry_R hu hk])]
    exact cnt_mrg (fun k hk => ha.2.1 u k hu hk) 300 (Nat.le_refl _)
  · unfold adds at hp
    split at hp
    next q => exact q.1
    next q => omega
theorem a_dry (h : LWs S A m H K V P n) (hw : w < 3) (hk : 0 ≤ key ∧ key ≤ 299) (hx : -2147483648 ≤ x ∧ x ≤ 2147483647) (hy : -2147483648 ≤ y ∧ y ≤ 2147483647) : ∃ (S' : MM) (A' : Nat → Int), rn xL_act (300, [some (vR 0), some (vI wd), some (vI v), some (vI x), some (vI y), some (vI (w : Int)), some (vI key), none, none, none, none, none, none, none], [], S) = some (some (vI 1), S') ∧ LX S' A' K V ∧ gf S S' := by
  have ha := h.1.aok
  have a7 := ha.2.2.2.1
  have c0 := ha.2.2.1 0 (by omega)
  have c1 := ha.2.2.1 1 (by omega)
  have c2 := ha.2.2.1 2 (by omega)
  have e1 := kp_id (r_c1 h.1)
  have e0 := kp_id (r_c0 h.1)
  by_cases q : errDry A = 0
  · have n7 : A 7 ≠ 0 := fun z => by
      unfold errDry at q
      rw [if_pos z] at q
      omega
    obtain ⟨S1, e2, L1, g1⟩ := o_dry h q
    have e2 := kfr e2 g1
    have f1 := kp_id (r_c1 L1.1)
    have f0 := kp_id (r_c0 L1.1)
    have m7 : mDry A 7 = A 7 - 1 := rfl
    rw [m7] at f1
    obtain ⟨x0, y0⟩ := dry_cnt ha (u := 0) (by omega)
    obtain ⟨x1, y1⟩ := dry_cnt ha (u := 1) (by omega)
    obtain ⟨x2, y2⟩ := dry_cnt ha (u := 2) (by omega)
    have b0 := L1.1.aok.2.2.1 0 (by omega)
    have b1 := L1.1.aok.2.2.1 1 (by omega)
    have b2 := L1.1.aok.2.2.1 2 (by omega)
    have k0 := cnt_le (tk A 0) 300
    have k1 := cnt_le (tk A 1) 300
    have k2 := cnt_le (tk A 2) 300
    refine ⟨S1, _, ?_, L1.lx, g1.gf⟩
    simp (disch := omega) only [eL_act_300, eL_act_301, eL_act_302, eL_act_305, eL_act_307, eL_act_308, eL_act_309, eL_act_312, eL_act_314, eL_act_315, eL_act_318, eL_act_320, eL_act_322, eL_act_325, eL_act_327, eL_act_329, eL_act_332, eL_act_333, eL_act_336, eL_act_337, eL_act_338, eL_act_340, eL_act_342, eL_act_345, eL_act_346, eL_act_347, eL_act_350, eL_act_352, eL_act_355, eL_act_356, eL_act_357, eL_act_360, eL_act_362, eL_act_365, eL_act_366, eL_act_369, eL_act_370, eL_act_371, eL_act_373, eL_act_376, eL_act_377, eL_act_378, eL_act_381, eL_act_383, eL_act_384, eL_act_385, eL_act_388, eL_act_389, eL_act_390, eL_act_393, eL_act_395, eL_act_398, eL_act_399, eL_act_400, eL_act_403, eL_act_405, eL_act_407, eL_act_408, eL_act_411, eL_act_412, eL_act_415, eL_act_416, if_pos, if_neg, if_true, if_false, Option.bind_some, Option.toList_some, Option.toList_none, List.cons_append, List.nil_append, e1, e0, e2, f1, f0]
  · have q2 : errDry A < 0 := by
      rcases errDry_v (A := A) with z | z
      · exact absurd z q
      · exact z.1
    have e2 := kp_id (s_dryX h.1 q2)
    refine ⟨S, A, ?_, h.lx, fr.refl.gf⟩
    by_cases n7 : A 7 = 0
    · have e5 : errDry A = -5 := by unfold errDry; rw [if_pos n7]
      rw [e5] at e2
      simp (disch := omega) only [eL_act_300, eL_act_301, eL_act_302, eL_act_305, eL_act_307, eL_act_308, eL_act_309, eL_act_312, eL_act_314, eL_act_315, eL_act_318, eL_act_320, eL_act_322, eL_act_325, eL_act_327, eL_act_329, eL_act_332, eL_act_333, eL_act_336, eL_act_337, eL_act_338, eL_act_340, eL_act_342, eL_act_345, eL_act_346, eL_act_347, eL_act_350, eL_act_352, eL_act_355, eL_act_356, eL_act_357, eL_act_360, eL_act_362, eL_act_365, eL_act_366, eL_act_369, eL_act_370, eL_act_371, eL_act_373, eL_act_376, eL_act_377, eL_act_378, eL_act_381, eL_act_383, eL_act_384, eL_act_385, eL_act_388, eL_act_389, eL_act_390, eL_act_393, eL_act_395, eL_act_398, eL_act_399, eL_act_400, eL_act_403, eL_act_405, eL_act_407, eL_act_408, eL_act_411, eL_act_412, eL_act_415, eL_act_416, if_pos, if_neg, if_true, if_false, Option.bind_some, Option.toList_some, Option.toList_none, List.cons_append, List.nil_append, e1, e0, e2]
    · have e5 : errDry A = -4 := by
        unfold errDry at q ⊢
        rw [if_neg n7] at q ⊢
        split
        next z => rw [if_pos z] at q; omega
        next z => rfl
      rw [e5] at e2
      simp (disch := omega) only [eL_act_300, eL_act_301, eL_act_302, eL_act_305, eL_act_307, eL_act_308, eL_act_309, eL_act_312, eL_act_314, eL_act_315, eL_act_318, eL_act_320, eL_act_322, eL_act_325, eL_act_327, eL_act_329, eL_act_332, eL_act_333, eL_act_336, eL_act_337, eL_act_338, eL_act_340, eL_act_342, eL_act_345, eL_act_346, eL_act_347, eL_act_350, eL_act_352, eL_act_355, eL_act_356, eL_act_357, eL_act_360, eL_act_362, eL_act_365, eL_act_366, eL_act_369, eL_act_370, eL_act_371, eL_act_373, eL_act_376, eL_act_377, eL_act_378, eL_act_381, eL_act_383, eL_act_384, eL_act_385, eL_act_388, eL_act_389, eL_act_390, eL_act_393, eL_act_395, eL_act_398, eL_act_399, eL_act_400, eL_act_403, eL_act_405, eL_act_407, eL_act_408, eL_act_411, eL_act_412, eL_act_415, eL_act_416, if_pos, if_neg, if_true, if_false, Option.bind_some, Option.toList_some, Option.toList_none, List.cons_append, List.nil_append, e1, e0, e2]
theorem a_leap (h : LWs S A m H K V P n) (hw : w < 3) (hk : 0 ≤ key ∧ key ≤ 299) (hx : -2147483648 ≤ x ∧ x ≤ 2147483647) (hy : -2147483648 ≤ y ∧ y ≤ 2147483647) : ∃ (S' : MM) (A' : Nat → Int), rn xL_act (708, [some (vR 0), some (vI wd), some (vI v), some (vI x), some (vI y), some (vI (w : Int)), some (vI key), none, none, none, none, none, none, none], [], S) = some (some (vI 1), S') ∧ LX S' A' K V ∧ gf S S' := by
  have f0 := kp_id (r_run h.1 (k := 0) (by omega))
  have a4 := h.1.aok.2.2.2.2.2.1
  by_cases q : A 4 = 1
  · rw [figR_0 (by omega), q] at f0
    obtain ⟨S1, e1, L1, g1⟩ := t_leap h q
    have e1 := kfr e1 g1
    refine ⟨S1, _, ?_, L1.lx, g1.gf⟩
    simp (disch := omega) only [eL_act_708, eL_act_709, eL_act_710, eL_act_713, eL_act_716, eL_act_717, eL_act_720, eL_act_722, eL_act_725, eL_act_726, eL_act_729, eL_act_731, eL_act_734, eL_act_735, eL_act_738, eL_act_739, eL_act_740, eL_act_741, eL_act_744, if_pos, if_neg, if_true, if_false, Option.bind_some, Option.toList_some, Option.toList_none, List.cons_append, List.nil_append, f0, e1]
  · have l1 := kp_id (s_leapX h.1 q)
    have l2 := kp_id (s_runX h.1 q)
    refine ⟨S, A, ?_, h.lx, fr.refl.gf⟩
    by_cases q0 : A 4 = 0
    · rw [figR_N q0] at f0
      simp (disch := omega) only [eL_act_708, eL_act_709, eL_act_710, eL_act_713, eL_act_716, eL_act_717, eL_act_720, eL_act_722, eL_act_725, eL_act_726, eL_act_729, eL_act_731, eL_act_734, eL_act_735, eL_act_738, eL_act_739, eL_act_740, eL_act_741, eL_act_744, if_pos, if_neg, if_true, if_false, Option.bind_some, Option.toList_some, Option.toList_none, List.cons_append, List.nil_append, f0, l1, l2]
    · rw [figR_0 q0] at f0
      simp (disch := omega) only [eL_act_708, eL_act_709, eL_act_710, eL_act_713, eL_act_716, eL_act_717, eL_act_720, eL_act_722, eL_act_725, eL_act_726, eL_act_729, eL_act_731, eL_act_734, eL_act_735, eL_act_738, eL_act_739, eL_act_740, eL_act_741, eL_act_744, if_pos, if_neg, if_true, if_false, Option.bind_some, Option.toList_some, Option.toList_none, List.cons_append, List.nil_append, f0, l1, l2]
theorem run_pos (ha : AOk A) (h4 : A 4 = 1) : 1 ≤ (mRun A (RA A)).2 ∧ (mRun A (RA A)).2 ≤ 1000 := by
  obtain ⟨hA, hR, h40, h7, hr, hs⟩ := ha
  have hl := leap_inv hA hr hs hR h4
  have hpl := pot_leap hA hr hs h4
  have hp := pot_b hr
  have i := (runF_inv hR 999 (mLeap A (RA A)) (hA.leap hr) hl.1 hl.2 (by omega)).1.2.2.2
  have e : (mRun A (RA A)).2 = (mRunF 999 (mLeap A (RA A)) (RA A)).2 + 1 := by
    show (mRunF (999 + 1) A (RA A)).2 = _
    rw [mRunF, if_pos h4]
  omega
theorem a_run (h : LWs S A m H K V P n) (hw : w < 3) (hk : 0 ≤ key ∧ key ≤ 299) (hx : -2147483648 ≤ x ∧ x ≤ 2147483647) (hy : -2147483648 ≤ y ∧ y ≤ 2147483647) : ∃ (S' : MM) (A' : Nat → Int), rn xL_act (745, [some (vR 0), some (vI wd), some (vI v), some (vI x), some (vI y), some (vI (w : Int)), some (vI key), none, none, none, none, none, none, none], [], S) = some (some (vI 1), S') ∧ LX S' A' K V ∧ gf S S' := by
  have f0 := kp_id (r_run h.1 (k := 0) (by omega))
  have ha := h.1.aok
  have a4 := ha.2.2.2.2.2.1
  by_cases q : A 4 = 1
  · rw [figR_0 (by omega), q] at f0
    have f5 := kp_id (r_run h.1 (k := 5) (by omega))
    rw [figR_5 (by omega)] at f5
    obtain ⟨S1, e1, L1, g1⟩ := o_run h q
    have e1 := kfr e1 g1
    have hp := run_pos ha q
    have hall := (run_all ha.2.1 1000 A ha.1 ha.2.2.2.2.1 ha.2.2.2.2.2 h.2.1 (by omega) (run_pot ha.2.2.2.2.1)).1
    have m4 : (mRun A (RA A)).1 4 = 2 := hall.1
    have m5 : (mRun A (RA A)).1 8 + (mRun A (RA A)).1 9 + (mRun A (RA A)).1 10 = A 8 + A 9 + A 10 + (mRun A (RA A)).2 := hall.2
    have r0 := kp_id (r_run L1.1 (k := 0) (by omega))
    rw [figR_0 (by omega), m4] at r0
    have r5 := kp_id (r_run L1.1 (k := 5) (by omega))
    rw [figR_5 (by omega), m5] at r5
    have w0 := ha.2.2.2.2.1.w (w := 0) (by omega)
    have w1 := ha.2.2.2.2.1.w (w := 1) (by omega)
    have w2 := ha.2.2.2.2.1.w (w := 2) (by omega)
    simp only [Nat.add_zero, Nat.reduceAdd] at w0 w1 w2
    refine ⟨S1, _, ?_, L1.lx, g1.gf⟩
    simp (disch := omega) only [eL_act_745, eL_act_746, eL_act_747, eL_act_750, eL_act_753, eL_act_754, eL_act_757, eL_act_759, eL_act_762, eL_act_763, eL_act_766, eL_act_767, eL_act_768, eL_act_769, eL_act_770, eL_act_773, eL_act_775, eL_act_776, eL_act_779, eL_act_781, eL_act_783, eL_act_786, eL_act_787, eL_act_788, eL_act_791, eL_act_792, eL_act_795, eL_act_796, eL_act_797, eL_act_800, eL_act_802, eL_act_804, eL_act_805, eL_act_808, eL_act_809, eL_act_812, eL_act_813, if_pos, if_neg, if_true, if_false, Option.bind_some, Option.toList_some, Option.toList_none, List.cons_append, List.nil_append, f0, f5, e1, r0, r5]
  · have l2 := kp_id (s_runX h.1 q)
    refine ⟨S, A, ?_, h.lx, fr.refl.gf⟩
    by_cases q0 : A 4 = 0
    · rw [figR_N q0] at f0
      simp (disch := omega) only [eL_act_745, eL_act_746, eL_act_747, eL_act_750, eL_act_753, eL_act_754, eL_act_757, eL_act_759, eL_act_762, eL_act_763, eL_act_766, eL_act_767, eL_act_768, eL_act_769, eL_act_770, eL_act_773, eL_act_775, eL_act_776, eL_act_779, eL_act_781, eL_act_783, eL_act_786, eL_act_787, eL_act_788, eL_act_791, eL_act_792, eL_act_795, eL_act_796, eL_act_797, eL_act_800, eL_act_802, eL_act_804, eL_act_805, eL_act_808, eL_act_809, eL_act_812, eL_act_813, if_pos, if_neg, if_true, if_false, Option.bind_some, Option.toList_some, Option.toList_none, List.cons_append, List.nil_append, f0, l2]
    · rw [figR_0 q0] at f0
      simp (disch := omega) only [eL_act_745, eL_act_746, eL_act_747, eL_act_750, eL_act_753, eL_act_754, eL_act_757, eL_act_759, eL_act_762, eL_act_763, eL_act_766, eL_act_767, eL_act_768, eL_act_769, eL_act_770, eL_act_773, eL_act_775, eL_act_776, eL_act_779, eL_act_781, eL_act_783, eL_act_786, eL_act_787, eL_act_788, eL_act_791, eL_act_792, eL_act_795, eL_act_796, eL_act_797, eL_act_800, eL_act_802, eL_act_804, eL_act_805, eL_act_808, eL_act_809, eL_act_812, eL_act_813, if_pos, if_neg, if_true, if_false, Option.bind_some, Option.toList_some, Option.toList_none, List.cons_append, List.nil_append, f0, l2]
theorem l_acS {j : Nat} {z : Int} (h : LWs S A m H K V P n) (hj : j < 4) (hz : 0 ≤ z ∧ z ≤ hiS j) : ∃ (S' : MM) (A' : Nat → Int), rn xL_act (880, [some (vR 0), some (vI wd), some (vI v), some (vI x), some (vI y), some (vI (w : Int)), some (vI key), some (vI (j : Int)), some (vI z), none, none, none, none, none], [], S) = some (some (vI 1), S') ∧ LX S' A' K V ∧ gf S S' := by
  obtain ⟨S1, e1, L1, g1⟩ := o_set h hj hz
  have e1 := kfr e1 g1
  have hb := hiS_b (j : Int)
  have hA := h.1.aok.1
  have c0 := kp_id (s_count h.1 (what := 2 + (j : Int)) (by omega))
  have c1 := kp_id (s_count L1.1 (what := 2 + (j : Int)) (by omega))
  have eA : ∀ B : Nat → Int, ∀ a b : Nat, cntF B a b (2 + (j : Int)) = B j := fun B a b => by
    unfold cntF
    rw [if_neg (by omega), if_neg (by omega), if_pos (by omega), show ((2 + (j : Int)) - 2).toNat = j by omega]
  have ez : mSet A j z j = z := by
    unfold mSet
    rw [mOvr_k (by omega), up_eq]
  rw [eA] at c0
  rw [eA, ez] at c1
  have hAj : 0 ≤ A j ∧ A j ≤ 299 := by
    obtain ⟨s0, s1, s2, s3⟩ := hA
    rcases (show j = 0 ∨ j = 1 ∨ j = 2 ∨ j = 3 by omega) with rfl | rfl | rfl | rfl <;> omega
  refine ⟨S1, _, ?_, L1.lx, g1.gf⟩
  simp (disch := omega) only [eL_act_880, eL_act_881, eL_act_882, eL_act_884, eL_act_885, eL_act_888, eL_act_890, eL_act_891, eL_act_893, eL_act_895, eL_act_898, eL_act_900, eL_act_903, eL_act_904, eL_act_905, eL_act_907, eL_act_908, eL_act_911, eL_act_913, eL_act_916, eL_act_917, eL_act_920, eL_act_921, if_pos, if_neg, if_true, if_false, Option.bind_some, Option.toList_some, Option.toList_none, List.cons_append, List.nil_append, c0, e1, c1]
theorem a_set (h : LWs S A m H K V P n) (hw : w < 3) (hk : 0 ≤ key ∧ key ≤ 299) (hx : -2147483648 ≤ x ∧ x ≤ 2147483647) (hy : -2147483648 ≤ y ∧ y ≤ 2147483647) : ∃ (S' : MM) (A' : Nat → Int), rn xL_act (814, [some (vR 0), some (vI wd), some (vI v), some (vI x), some (vI y), some (vI (w : Int)), some (vI key), none, none, none, none, none, none, none], [], S) = some (some (vI 1), S') ∧ LX S' A' K V ∧ gf S S' := by
  rcases (show x % 2147483648 % 4 = 0 ∨ x % 2147483648 % 4 = 1 ∨ x % 2147483648 % 4 = 2 ∨ x % 2147483648 % 4 = 3 by omega) with q | q | q | q
  · obtain ⟨S1, A1, i1, L1, g1⟩ := l_acS (wd := wd) (v := v) (x := x) (y := y) (w := w) (key := key) (j := 0) (z := y % 2147483648 % 12) h (by omega) (by show 0 ≤ y % 2147483648 % 12 ∧ y % 2147483648 % 12 ≤ 299; omega)
    have i1 : rn xL_act (880, [some (vR 0), some (vI wd), some (vI v), some (vI x), some (vI y), some (vI (w : Int)), some (vI key), some (vI 0), some (vI (y % 2147483648 % 12)), none, none, none, none, none], [], S) = _ := i1
    refine ⟨S1, A1, ?_, L1, g1⟩
    rw [← i1]
    simp (disch := omega) only [eL_act_814, eL_act_815, eL_act_816, eL_act_819, eL_act_821, eL_act_823, eL_act_824, eL_act_827, eL_act_829, eL_act_830, eL_act_833, eL_act_836, eL_act_838, eL_act_839, eL_act_842, eL_act_844, eL_act_846, eL_act_849, eL_act_852, eL_act_854, eL_act_857, eL_act_859, eL_act_861, eL_act_864, eL_act_867, eL_act_869, eL_act_871, eL_act_874, eL_act_877, eL_act_878, if_pos, if_neg, if_true, if_false, Option.bind_some, Option.toList_some, Option.toList_none, List.cons_append, List.nil_append, k_up, q]
  · obtain ⟨S1, A1, i1, L1, g1⟩ := l_acS (wd := wd) (v := v) (x := x) (y := y) (w := w) (key := key) (j := 1) (z := 25 + y % 2147483648 % 275) h (by omega) (by show 0 ≤ 25 + y % 2147483648 % 275 ∧ 25 + y % 2147483648 % 275 ≤ 299; omega)
    have i1 : rn xL_act (880, [some (vR 0), some (vI wd), some (vI v), some (vI x), some (vI y), some (vI (w : Int)), some (vI key), some (vI 1), some (vI (25 + y % 2147483648 % 275)), none, none, none, none, none], [], S) = _ := i1
    refine ⟨S1, A1, ?_, L1, g1⟩
    rw [← i1]
    simp (disch := omega) only [eL_act_814, eL_act_815, eL_act_816, eL_act_819, eL_act_821, eL_act_823, eL_act_824, eL_act_827, eL_act_829, eL_act_830, eL_act_833, eL_act_836, eL_act_838, eL_act_839, eL_act_842, eL_act_844, eL_act_846, eL_act_849, eL_act_852, eL_act_854, eL_act_857, eL_act_859, eL_act_861, eL_act_864, eL_act_867, eL_act_869, eL_act_871, eL_act_874, eL_act_877, eL_act_878, if_pos, if_neg, if_true, if_false, Option.bind_some, Option.toList_some, Option.toList_none, List.cons_append, List.nil_append, k_up, q]
  · obtain ⟨S1, A1, i1, L1, g1⟩ := l_acS (wd := wd) (v := v) (x := x) (y := y) (w := w) (key := key) (j := 2) (z := y % 2147483648 % 3) h (by omega) (by show 0 ≤ y % 2147483648 % 3 ∧ y % 2147483648 % 3 ≤ 2; omega)
    have i1 : rn xL_act (880, [some (vR 0), some (vI wd), some (vI v), some (vI x), some (vI y), some (vI (w : Int)), some (vI key), some (vI 2), some (vI (y % 2147483648 % 3)), none, none, none, none, none], [], S) = _ := i1
    refine ⟨S1, A1, ?_, L1, g1⟩
    rw [← i1]
    simp (disch := omega) only [eL_act_814, eL_act_815, eL_act_816, eL_act_819, eL_act_821, eL_act_823, eL_act_824, eL_act_827, eL_act_829, eL_act_830, eL_act_833, eL_act_836, eL_act_838, eL_act_839, eL_act_842, eL_act_844, eL_act_846, eL_act_849, eL_act_852, eL_act_854, eL_act_857, eL_act_859, eL_act_861, eL_act_864, eL_act_867, eL_act_869, eL_act_871, eL_act_874, eL_act_877, eL_act_878, if_pos, if_neg, if_true, if_false, Option.bind_some, Option.toList_some, Option.toList_none, List.cons_append, List.nil_append, k_up, q]
  · obtain ⟨S1, A1, i1, L1, g1⟩ := l_acS (wd := wd) (v := v) (x := x) (y := y) (w := w) (key := key) (j := 3) (z := y % 2147483648 % 6) h (by omega) (by show 0 ≤ y % 2147483648 % 6 ∧ y % 2147483648 % 6 ≤ 5; omega)
    have i1 : rn xL_act (880, [some (vR 0), some (vI wd), some (vI v), some (vI x), some (vI y), some (vI (w : Int)), some (vI key), some (vI 3), some (vI (y % 2147483648 % 6)), none, none, none, none, none], [], S) = _ := i1
    refine ⟨S1, A1, ?_, L1, g1⟩
    rw [← i1]
    simp (disch := omega) only [eL_act_814, eL_act_815, eL_act_816, eL_act_819, eL_act_821, eL_act_823, eL_act_824, eL_act_827, eL_act_829, eL_act_830, eL_act_833, eL_act_836, eL_act_838, eL_act_839, eL_act_842, eL_act_844, eL_act_846, eL_act_849, eL_act_852, eL_act_854, eL_act_857, eL_act_859, eL_act_861, eL_act_864, eL_act_867, eL_act_869, eL_act_871, eL_act_874, eL_act_877, eL_act_878, if_pos, if_neg, if_true, if_false, Option.bind_some, Option.toList_some, Option.toList_none, List.cons_append, List.nil_append, k_up, q]
theorem a_text (h : LWs S A m H K V P n) (hw : w < 3) (hk : 0 ≤ key ∧ key ≤ 299) (hx : -2147483648 ≤ x ∧ x ≤ 2147483647) (hy : -2147483648 ≤ y ∧ y ≤ 2147483647) : ∃ (S' : MM) (A' : Nat → Int), rn xL_act (922, [some (vR 0), some (vI wd), some (vI v), some (vI x), some (vI y), some (vI (w : Int)), some (vI key), none, none, none, none, none, none, none], [], S) = some (some (vI 1), S') ∧ LX S' A' K V ∧ gf S S' := by
  obtain ⟨S1, A1, e1, L1, g1⟩ := t_text hx hy h
  have e1 := kfr e1 g1
  refine ⟨S1, A1, ?_, L1, g1.gf⟩
  simp (disch := omega) only [eL_act_922, eL_act_923, eL_act_924, eL_act_926, eL_act_929, if_pos, if_neg, if_true, if_false, Option.bind_some, Option.toList_some, Option.toList_none, List.cons_append, List.nil_append, e1]
end LAW11
