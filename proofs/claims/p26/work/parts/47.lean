/-! the law's leap: who leaps, and with how many looks -/
section LAW7
variable {S S' : MM} {A A' : Nat → Int} {m : Nat} {H : Nat → Nat → Int} {K : Nat → Int} {V : Nat → Nat → Int} {P : Nat → Int} {n : Nat}
theorem plc_s {o w : Int} (ho : 0 ≤ o ∧ o ≤ 5) (hw : 0 ≤ w ∧ w ≤ 2) : trn o (plc o w) = w ∧ (trn o 0 = w → plc o w = 0) ∧ (trn o 1 = w → plc o w = 1) ∧ (trn o 2 = w → plc o w = 2) ∧ (plc o w = 0 → trn o 0 = w) ∧ (plc o w = 1 → trn o 1 = w) ∧ (plc o w = 2 → trn o 2 = w) := by
  rcases (show o = 0 ∨ o = 1 ∨ o = 2 ∨ o = 3 ∨ o = 4 ∨ o = 5 by omega) with rfl | rfl | rfl | rfl | rfl | rfl <;> rcases (show w = 0 ∨ w = 1 ∨ w = 2 by omega) with rfl | rfl | rfl <;> decide
theorem plc_t {o p : Int} (ho : 0 ≤ o ∧ o ≤ 5) (hp : 0 ≤ p ∧ p ≤ 2) : plc o (trn o p) = p := by
  rcases (show o = 0 ∨ o = 1 ∨ o = 2 ∨ o = 3 ∨ o = 4 ∨ o = 5 by omega) with rfl | rfl | rfl | rfl | rfl | rfl <;> rcases (show p = 0 ∨ p = 1 ∨ p = 2 by omega) with rfl | rfl | rfl <;> decide
theorem r_w2 (h : XIs S A m H K V P n) (h4 : A 4 = 1) {z : Int} (hz : 0 ≤ z ∧ z ≤ 2) : fX8_ofWalker [vR 0, vI z, vI 2] S = some (some (vI (A (20 + z.toNat))), S) := by
  have e := r_w h (w := z.toNat) (k := 2) (by omega) (by omega)
  have := ((h.aok.2.2.2.2.2.2.1 h4).1 z.toNat (by omega)).1
  rw [ofW_2 (by omega) (by omega), if_neg (by omega), Int.toNat_of_nonneg hz.1] at e
  exact e
theorem l_le1 (h : XIs S A m H K V P n) (h4 : A 4 = 1) {mt rows : Int} {x6 x7 x8 x9 x10 x11 x12 x13 x14 x15 x16 x17 : Option VV} : ∃ pl : Int, (0 ≤ pl ∧ pl ≤ 2) ∧ trn (A 3) pl = nxtW A ∧ rn xL_leap (28, [some (vR 0), some (vI (A 3)), some (vI (A 5)), some (vI mt), some (vI rows), some (vI 0), x6, x7, x8, x9, x10, x11, x12, x13, x14, x15, x16, x17], [], S) = rn xL_leap (74, [some (vR 0), some (vI (A 3)), some (vI (A 5)), some (vI mt), some (vI rows), some (vI pl), x6, x7, x8, x9, x10, x11, x12, x13, x14, x15, x16, x17], [], S) := by
  obtain ⟨⟨s0, s1, s2, s3⟩, hR, h40, h7, hr, hs⟩ := h.aok
  have b5 := hr.1
  have b6 := hr.2.1
  have f2 := r_run h (k := 2) (by omega)
  rw [figR_2 (by omega)] at f2
  have hp := plc_b (A 3) (A 6)
  obtain ⟨q1, q2, q3, q4, q5, q6, q7⟩ := plc_s (o := A 3) (w := A 6) s3 b6
  have hst : ∀ z : Int, 0 ≤ z ∧ z ≤ 2 → 0 ≤ A (20 + z.toNat) ∧ A (20 + z.toNat) < 300 := fun z hz => ⟨(hr.w (w := z.toNat) (by omega)).1.1, ((hs.2.1 h4).1 z.toNat (by omega)).1⟩
  have t0 := trn_b (A 3) 0
  have t1 := trn_b (A 3) 1
  have t2 := trn_b (A 3) 2
  have i1 : rn xL_leap (28, [some (vR 0), some (vI (A 3)), some (vI (A 5)), some (vI mt), some (vI rows), some (vI 0), x6, x7, x8, x9, x10, x11, x12, x13, x14, x15, x16, x17], [], S) = rn xL_leap (48, [some (vR 0), some (vI (A 3)), some (vI (A 5)), some (vI mt), some (vI rows), some (vI (plc (A 3) (A 6))), x6, x7, x8, x9, x10, x11, x12, x13, x14, x15, x16, x17], [], S) := by
    rw [eL_leap_28]
    rcases (show plc (A 3) (A 6) = 0 ∨ plc (A 3) (A 6) = 1 ∨ plc (A 3) (A 6) = 2 by omega) with z | z | z
    · have z0 := q5 z
      rw [z]
      simp (disch := omega) only [eL_leap_29, eL_leap_31, eL_leap_34, eL_leap_35, eL_leap_36, eL_leap_39, eL_leap_42, eL_leap_45, if_pos, if_neg, if_true, if_false, Option.bind_some, Option.toList_some, Option.toList_none, List.cons_append, List.nil_append, s_inTurn s3, f2]
    · have z0 := q6 z
      have z1 : ¬ trn (A 3) 0 = A 6 := fun y => by have := q2 y; omega
      rw [z]
      simp (disch := omega) only [eL_leap_29, eL_leap_31, eL_leap_34, eL_leap_35, eL_leap_36, eL_leap_39, eL_leap_42, eL_leap_45, if_pos, if_neg, if_true, if_false, Option.bind_some, Option.toList_some, Option.toList_none, List.cons_append, List.nil_append, s_inTurn s3, f2]
      rw [eL_leap_28]
      simp (disch := omega) only [eL_leap_29, eL_leap_31, eL_leap_34, eL_leap_35, eL_leap_36, eL_leap_39, eL_leap_42, eL_leap_45, if_pos, if_neg, if_true, if_false, Option.bind_some, Option.toList_some, Option.toList_none, List.cons_append, List.nil_append, s_inTurn s3, f2, Int.zero_add]
    · have z0 := q7 z
      have z1 : ¬ trn (A 3) 0 = A 6 := fun y => by have := q2 y; omega
      have z2 : ¬ trn (A 3) 1 = A 6 := fun y => by have := q3 y; omega
      rw [z]
      simp (disch := omega) only [eL_leap_29, eL_leap_31, eL_leap_34, eL_leap_35, eL_leap_36, eL_leap_39, eL_leap_42, eL_leap_45, if_pos, if_neg, if_true, if_false, Option.bind_some, Option.toList_some, Option.toList_none, List.cons_append, List.nil_append, s_inTurn s3, f2]
      rw [eL_leap_28]
      simp (disch := omega) only [eL_leap_29, eL_leap_31, eL_leap_34, eL_leap_35, eL_leap_36, eL_leap_39, eL_leap_42, eL_leap_45, if_pos, if_neg, if_true, if_false, Option.bind_some, Option.toList_some, Option.toList_none, List.cons_append, List.nil_append, s_inTurn s3, f2, Int.zero_add]
      rw [eL_leap_28, show (1 : Int) + 1 = 2 from rfl]
      simp (disch := omega) only [eL_leap_29, eL_leap_31, eL_leap_34, eL_leap_35, eL_leap_36, eL_leap_39, eL_leap_42, eL_leap_45, if_pos, if_neg, if_true, if_false, Option.bind_some, Option.toList_some, Option.toList_none, List.cons_append, List.nil_append, s_inTurn s3, f2]
  rw [i1]
  have hsh := nxtW_short h.aok.1 hs h4
  have hnx : nxtW A = if A (20 + (trn (A 3) (plc (A 3) (A 6))).toNat) < A 5 then trn (A 3) (plc (A 3) (A 6)) else if A (20 + (trn (A 3) ((plc (A 3) (A 6) + 1) % 3)).toNat) < A 5 then trn (A 3) ((plc (A 3) (A 6) + 1) % 3) else trn (A 3) ((plc (A 3) (A 6) + 2) % 3) := by
    unfold nxtW bhd
    rw [Int.add_zero, show plc (A 3) (A 6) % 3 = plc (A 3) (A 6) by omega]
  generalize hpl : plc (A 3) (A 6) = pl0 at hp hnx
  have u0 := trn_b (A 3) pl0
  have u1 := trn_b (A 3) ((pl0 + 1) % 3)
  have u2 := trn_b (A 3) ((pl0 + 2) % 3)
  have v0 := hst _ u0
  have v1 := hst _ u1
  have v2 := hst _ u2
  by_cases c0 : A (20 + (trn (A 3) pl0).toNat) < A 5
  · rw [if_pos c0] at hnx
    refine ⟨pl0, hp, hnx.symm, ?_⟩
    rw [eL_leap_48]
    simp (disch := omega) only [eL_leap_49, eL_leap_50, eL_leap_52, eL_leap_55, eL_leap_56, eL_leap_59, eL_leap_60, eL_leap_63, eL_leap_65, eL_leap_66, eL_leap_67, eL_leap_68, eL_leap_69, eL_leap_71, if_pos, if_neg, if_true, if_false, Option.bind_some, Option.toList_some, Option.toList_none, List.cons_append, List.nil_append, s_inTurn s3, r_w2 h h4]
  · rw [if_neg c0] at hnx
    by_cases c1 : A (20 + (trn (A 3) ((pl0 + 1) % 3)).toNat) < A 5
    · rw [if_pos c1] at hnx
      refine ⟨(pl0 + 1) % 3, by omega, hnx.symm, ?_⟩
      rw [eL_leap_48]
      simp (disch := omega) only [eL_leap_49, eL_leap_50, eL_leap_52, eL_leap_55, eL_leap_56, eL_leap_59, eL_leap_60, eL_leap_63, eL_leap_65, eL_leap_66, eL_leap_67, eL_leap_68, eL_leap_69, eL_leap_71, if_pos, if_neg, if_true, if_false, Option.bind_some, Option.toList_some, Option.toList_none, List.cons_append, List.nil_append, s_inTurn s3, r_w2 h h4]
      rw [eL_leap_48]
      simp (disch := omega) only [eL_leap_49, eL_leap_50, eL_leap_52, eL_leap_55, eL_leap_56, eL_leap_59, eL_leap_60, eL_leap_63, eL_leap_65, eL_leap_66, eL_leap_67, eL_leap_68, eL_leap_69, eL_leap_71, if_pos, if_neg, if_true, if_false, Option.bind_some, Option.toList_some, Option.toList_none, List.cons_append, List.nil_append, s_inTurn s3, r_w2 h h4]
    · rw [if_neg c1] at hnx
      rw [hnx] at hsh
      refine ⟨(pl0 + 2) % 3, by omega, hnx.symm, ?_⟩
      rw [eL_leap_48]
      simp (disch := omega) only [eL_leap_49, eL_leap_50, eL_leap_52, eL_leap_55, eL_leap_56, eL_leap_59, eL_leap_60, eL_leap_63, eL_leap_65, eL_leap_66, eL_leap_67, eL_leap_68, eL_leap_69, eL_leap_71, if_pos, if_neg, if_true, if_false, Option.bind_some, Option.toList_some, Option.toList_none, List.cons_append, List.nil_append, s_inTurn s3, r_w2 h h4]
      rw [eL_leap_48]
      simp (disch := omega) only [eL_leap_49, eL_leap_50, eL_leap_52, eL_leap_55, eL_leap_56, eL_leap_59, eL_leap_60, eL_leap_63, eL_leap_65, eL_leap_66, eL_leap_67, eL_leap_68, eL_leap_69, eL_leap_71, if_pos, if_neg, if_true, if_false, Option.bind_some, Option.toList_some, Option.toList_none, List.cons_append, List.nil_append, s_inTurn s3, r_w2 h h4]
      rw [show ((pl0 + 1) % 3 + 1) % 3 = (pl0 + 2) % 3 by omega, eL_leap_48]
      simp (disch := omega) only [eL_leap_49, eL_leap_50, eL_leap_52, eL_leap_55, eL_leap_56, eL_leap_59, eL_leap_60, eL_leap_63, eL_leap_65, eL_leap_66, eL_leap_67, eL_leap_68, eL_leap_69, eL_leap_71, if_pos, if_neg, if_true, if_false, Option.bind_some, Option.toList_some, Option.toList_none, List.cons_append, List.nil_append, s_inTurn s3, r_w2 h h4]
section LOOKS
variable {o g mt rows pl w i nn to lk lp was far : Int} (hg : 0 ≤ to ∧ to ≤ 40)
theorem l_leH (hg : 0 ≤ to ∧ to ≤ 40) : ∀ (f : Nat) (p q due : Int) (x17 : Option VV), (0 ≤ p ∧ p ≤ 40) → (0 ≤ q ∧ q ≤ 40) → q - p ≤ f → (0 ≤ due ∧ due + f ≤ 100000) → ∃ x15 x16, rn xL_leap (261, [some (vR 0), some (vI o), some (vI g), some (vI mt), some (vI rows), some (vI pl), some (vI w), some (vI i), some (vI nn), some (vI to), some (vI lk), some (vI lp), some (vI was), some (vI far), some (vI due), some (vI p), some (vI q), x17], [], S) = rn xL_leap (309, [some (vR 0), some (vI o), some (vI g), some (vI mt), some (vI rows), some (vI pl), some (vI w), some (vI i), some (vI nn), some (vI to), some (vI lk), some (vI lp), some (vI was), some (vI far), some (vI (due + lkH f p q to)), some (vI x15), some (vI x16), x17], [], S) := by
  intro f
  induction f with
  | zero =>
    intro p q due x17 h1 h2 h3 h4
    refine ⟨p, q, ?_⟩
    rw [eL_leap_261, lkH, Int.add_zero]
    simp (disch := omega) only [eL_leap_263, eL_leap_265, eL_leap_266, eL_leap_267, eL_leap_270, eL_leap_273, eL_leap_275, eL_leap_277, eL_leap_278, eL_leap_279, eL_leap_280, eL_leap_282, eL_leap_285, eL_leap_287, eL_leap_289, eL_leap_290, eL_leap_291, eL_leap_292, eL_leap_294, eL_leap_297, eL_leap_299, eL_leap_301, eL_leap_302, eL_leap_303, eL_leap_304, eL_leap_306, if_pos, if_neg, if_true, if_false, Option.bind_some, Option.toList_some, Option.toList_none, List.cons_append, List.nil_append]
  | succ f ih =>
    intro p q due x17 h1 h2 h3 h4
    rw [lkH]
    by_cases c : q - p > 1
    · rw [if_pos c]
      by_cases d : (p + q) / 2 < to
      · rw [if_pos d]
        obtain ⟨x15, x16, e⟩ := ih ((p + q) / 2) q (due + 1) x17 (by omega) h2 (by omega) (by omega)
        refine ⟨x15, x16, ?_⟩
        rw [show due + (lkH f ((p + q) / 2) q to + 1) = due + 1 + lkH f ((p + q) / 2) q to by omega, ← e, eL_leap_261]
        simp (disch := omega) only [eL_leap_263, eL_leap_265, eL_leap_266, eL_leap_267, eL_leap_270, eL_leap_273, eL_leap_275, eL_leap_277, eL_leap_278, eL_leap_279, eL_leap_280, eL_leap_282, eL_leap_285, eL_leap_287, eL_leap_289, eL_leap_290, eL_leap_291, eL_leap_292, eL_leap_294, eL_leap_297, eL_leap_299, eL_leap_301, eL_leap_302, eL_leap_303, eL_leap_304, eL_leap_306, if_pos, if_neg, if_true, if_false, Option.bind_some, Option.toList_some, Option.toList_none, List.cons_append, List.nil_append]
      · rw [if_neg d]
        obtain ⟨x15, x16, e⟩ := ih p ((p + q) / 2) (due + 1) x17 h1 (by omega) (by omega) (by omega)
        refine ⟨x15, x16, ?_⟩
        rw [show due + (lkH f p ((p + q) / 2) to + 1) = due + 1 + lkH f p ((p + q) / 2) to by omega, ← e, eL_leap_261]
        simp (disch := omega) only [eL_leap_263, eL_leap_265, eL_leap_266, eL_leap_267, eL_leap_270, eL_leap_273, eL_leap_275, eL_leap_277, eL_leap_278, eL_leap_279, eL_leap_280, eL_leap_282, eL_leap_285, eL_leap_287, eL_leap_289, eL_leap_290, eL_leap_291, eL_leap_292, eL_leap_294, eL_leap_297, eL_leap_299, eL_leap_301, eL_leap_302, eL_leap_303, eL_leap_304, eL_leap_306, if_pos, if_neg, if_true, if_false, Option.bind_some, Option.toList_some, Option.toList_none, List.cons_append, List.nil_append]
    · rw [if_neg c, Int.add_zero]
      refine ⟨p, q, ?_⟩
      rw [eL_leap_261]
      simp (disch := omega) only [eL_leap_263, eL_leap_265, eL_leap_266, eL_leap_267, eL_leap_270, eL_leap_273, eL_leap_275, eL_leap_277, eL_leap_278, eL_leap_279, eL_leap_280, eL_leap_282, eL_leap_285, eL_leap_287, eL_leap_289, eL_leap_290, eL_leap_291, eL_leap_292, eL_leap_294, eL_leap_297, eL_leap_299, eL_leap_301, eL_leap_302, eL_leap_303, eL_leap_304, eL_leap_306, if_pos, if_neg, if_true, if_false, Option.bind_some, Option.toList_some, Option.toList_none, List.cons_append, List.nil_append]
theorem l_leD (hg : 0 ≤ to ∧ to ≤ 40) (hi : 0 ≤ i ∧ i ≤ 40) (hn : 0 ≤ nn ∧ nn ≤ 40) : ∀ (f : Nat) (b p due : Int), (1 ≤ b ∧ b ≤ 100) → 41 ≤ b + f → 1 ≤ f → (0 ≤ p ∧ p ≤ 40) → (0 ≤ due ∧ due + f ≤ 50000) → ∃ x15 x16 x17, rn xL_leap (204, [some (vR 0), some (vI o), some (vI g), some (vI mt), some (vI rows), some (vI pl), some (vI w), some (vI i), some (vI nn), some (vI to), some (vI lk), some (vI lp), some (vI was), some (vI far), some (vI due), some (vI p), some (vI nn), some (vI b)], [], S) = rn xL_leap (309, [some (vR 0), some (vI o), some (vI g), some (vI mt), some (vI rows), some (vI pl), some (vI w), some (vI i), some (vI nn), some (vI to), some (vI lk), some (vI lp), some (vI was), some (vI far), some (vI (due + lk1 f i b p nn to)), some (vI x15), some (vI x16), some (vI x17)], [], S) := by
  intro f
  induction f with
  | zero =>
    intro b p due h1 h2 h3
    omega
  | succ f ih =>
    intro b p due h1 h2 h3 h4 h5
    rw [lk1]
    by_cases c : i + b < nn
    · rw [if_pos c]
      by_cases d : i + b < to
      · rw [if_pos d]
        obtain ⟨x15, x16, x17, e⟩ := ih (b * 2) (i + b) (due + 1) (by omega) (by omega) (by omega) (by omega) (by omega)
        refine ⟨x15, x16, x17, ?_⟩
        rw [show due + (lk1 f i (b * 2) (i + b) nn to + 1) = due + 1 + lk1 f i (b * 2) (i + b) nn to by omega, ← e, eL_leap_204]
        simp (disch := omega) only [eL_leap_206, eL_leap_208, eL_leap_211, eL_leap_213, eL_leap_215, eL_leap_216, eL_leap_218, eL_leap_221, eL_leap_224, eL_leap_226, eL_leap_228, eL_leap_229, eL_leap_231, eL_leap_234, eL_leap_236, eL_leap_238, eL_leap_239, eL_leap_241, eL_leap_244, eL_leap_246, eL_leap_248, eL_leap_249, eL_leap_251, eL_leap_253, eL_leap_255, eL_leap_256, eL_leap_258, if_pos, if_neg, if_true, if_false, Option.bind_some, Option.toList_some, Option.toList_none, List.cons_append, List.nil_append]
        rw [show b * 2 = b + b by omega]
      · rw [if_neg d]
        obtain ⟨x15, x16, e⟩ := l_leH (S := S) (o := o) (g := g) (mt := mt) (rows := rows) (pl := pl) (w := w) (i := i) (nn := nn) (lk := lk) (lp := lp) (was := was) (far := far) hg 40 p (i + b) (due + 1) (some (vI (b + b))) h4 (by omega) (by omega) (by omega)
        refine ⟨x15, x16, b + b, ?_⟩
        rw [show due + (lkH 40 p (i + b) to + 1) = due + 1 + lkH 40 p (i + b) to by omega, ← e, eL_leap_204]
        simp (disch := omega) only [eL_leap_206, eL_leap_208, eL_leap_211, eL_leap_213, eL_leap_215, eL_leap_216, eL_leap_218, eL_leap_221, eL_leap_224, eL_leap_226, eL_leap_228, eL_leap_229, eL_leap_231, eL_leap_234, eL_leap_236, eL_leap_238, eL_leap_239, eL_leap_241, eL_leap_244, eL_leap_246, eL_leap_248, eL_leap_249, eL_leap_251, eL_leap_253, eL_leap_255, eL_leap_256, eL_leap_258, if_pos, if_neg, if_true, if_false, Option.bind_some, Option.toList_some, Option.toList_none, List.cons_append, List.nil_append]
        rw [eL_leap_204]
        simp (disch := omega) only [eL_leap_206, eL_leap_208, eL_leap_211, eL_leap_213, eL_leap_215, eL_leap_216, eL_leap_218, eL_leap_221, eL_leap_224, eL_leap_226, eL_leap_228, eL_leap_229, eL_leap_231, eL_leap_234, eL_leap_236, eL_leap_238, eL_leap_239, eL_leap_241, eL_leap_244, eL_leap_246, eL_leap_248, eL_leap_249, eL_leap_251, eL_leap_253, eL_leap_255, eL_leap_256, eL_leap_258, if_pos, if_neg, if_true, if_false, Option.bind_some, Option.toList_some, Option.toList_none, List.cons_append, List.nil_append]
    · rw [if_neg c]
      obtain ⟨x15, x16, e⟩ := l_leH (S := S) (o := o) (g := g) (mt := mt) (rows := rows) (pl := pl) (w := w) (i := i) (nn := nn) (lk := lk) (lp := lp) (was := was) (far := far) hg 40 p nn due (some (vI b)) h4 hn (by omega) (by omega)
      refine ⟨x15, x16, b, ?_⟩
      rw [← e, eL_leap_204]
      simp (disch := omega) only [eL_leap_206, eL_leap_208, eL_leap_211, eL_leap_213, eL_leap_215, eL_leap_216, eL_leap_218, eL_leap_221, eL_leap_224, eL_leap_226, eL_leap_228, eL_leap_229, eL_leap_231, eL_leap_234, eL_leap_236, eL_leap_238, eL_leap_239, eL_leap_241, eL_leap_244, eL_leap_246, eL_leap_248, eL_leap_249, eL_leap_251, eL_leap_253, eL_leap_255, eL_leap_256, eL_leap_258, if_pos, if_neg, if_true, if_false, Option.bind_some, Option.toList_some, Option.toList_none, List.cons_append, List.nil_append]
theorem lk0_eq (g : Int) : ∀ (f : Nat) (i n : Int), n - i ≤ f → i ≤ g → g ≤ n → lk0 f i n g = if g < n then g - i + 1 else n - i := by
  intro f
  induction f with
  | zero =>
    intro i n h1 h2 h3
    rw [lk0, if_neg (by omega)]
    omega
  | succ f ih =>
    intro i n h1 h2 h3
    rw [lk0]
    by_cases c : i < n
    · rw [if_pos c]
      by_cases d : i < g
      · rw [if_pos d, ih (i + 1) n (by omega) (by omega) h3]
        split <;> omega
      · rw [if_neg d, if_pos (by omega)]
        omega
    · rw [if_neg c, if_neg (by omega)]
      omega
theorem l_leK (h : XIs S A m H K V P n) (hg : 0 ≤ to ∧ to ≤ 40) (hi : 0 ≤ i ∧ i < to) (hn : to ≤ nn ∧ nn ≤ 40) {x15 x16 x17 : Option VV} : ∃ y15 y16 y17, rn xL_leap (149, [some (vR 0), some (vI o), some (vI g), some (vI mt), some (vI rows), some (vI pl), some (vI w), some (vI i), some (vI nn), some (vI to), some (vI lk), some (vI lp), some (vI was), some (vI far), some (vI 0), x15, x16, x17], [], S) = rn xL_leap (309, [some (vR 0), some (vI o), some (vI g), some (vI mt), some (vI rows), some (vI pl), some (vI w), some (vI i), some (vI nn), some (vI to), some (vI lk), some (vI lp), some (vI was), some (vI far), some (vI (lks (A 2) i nn to)), y15, y16, y17], [], S) := by
  have e4 := r_c4 h
  have b2 := h.aok.1.2.2.1
  unfold lks
  by_cases c0 : A 2 = 0
  · rw [if_pos c0, lk0_eq to 40 (i + 1) nn (by omega) (by omega) (by omega)]
    refine ⟨x15, x16, x17, ?_⟩
    by_cases d : to < nn
    · rw [if_pos d, show to - (i + 1) + 1 = to - i by omega]
      simp (disch := omega) only [eL_leap_149, eL_leap_150, eL_leap_151, eL_leap_154, eL_leap_157, eL_leap_159, eL_leap_161, eL_leap_164, eL_leap_166, eL_leap_168, eL_leap_169, eL_leap_172, eL_leap_174, eL_leap_175, eL_leap_176, eL_leap_178, eL_leap_179, eL_leap_181, eL_leap_184, eL_leap_186, eL_leap_188, eL_leap_190, eL_leap_192, eL_leap_193, eL_leap_194, eL_leap_197, eL_leap_198, eL_leap_201, eL_leap_202, if_pos, if_neg, if_true, if_false, Option.bind_some, Option.toList_some, Option.toList_none, List.cons_append, List.nil_append, e4]
    · rw [if_neg d, show nn - (i + 1) = nn - 1 - i by omega]
      simp (disch := omega) only [eL_leap_149, eL_leap_150, eL_leap_151, eL_leap_154, eL_leap_157, eL_leap_159, eL_leap_161, eL_leap_164, eL_leap_166, eL_leap_168, eL_leap_169, eL_leap_172, eL_leap_174, eL_leap_175, eL_leap_176, eL_leap_178, eL_leap_179, eL_leap_181, eL_leap_184, eL_leap_186, eL_leap_188, eL_leap_190, eL_leap_192, eL_leap_193, eL_leap_194, eL_leap_197, eL_leap_198, eL_leap_201, eL_leap_202, if_pos, if_neg, if_true, if_false, Option.bind_some, Option.toList_some, Option.toList_none, List.cons_append, List.nil_append, e4]
  · rw [if_neg c0]
    by_cases c1 : A 2 = 1
    · rw [if_pos c1]
      obtain ⟨y15, y16, y17, e⟩ := l_leD (S := S) (o := o) (g := g) (mt := mt) (rows := rows) (pl := pl) (w := w) (i := i) (lk := lk) (lp := lp) (was := was) (far := far) hg (by omega) (nn := nn) (by omega) 40 1 i 0 (by omega) (by omega) (by omega) (by omega) (by omega)
      rw [Int.zero_add] at e
      refine ⟨some (vI y15), some (vI y16), some (vI y17), ?_⟩
      · rw [← e]
        simp (disch := omega) only [eL_leap_149, eL_leap_150, eL_leap_151, eL_leap_154, eL_leap_157, eL_leap_159, eL_leap_161, eL_leap_164, eL_leap_166, eL_leap_168, eL_leap_169, eL_leap_172, eL_leap_174, eL_leap_175, eL_leap_176, eL_leap_178, eL_leap_179, eL_leap_181, eL_leap_184, eL_leap_186, eL_leap_188, eL_leap_190, eL_leap_192, eL_leap_193, eL_leap_194, eL_leap_197, eL_leap_198, eL_leap_201, eL_leap_202, if_pos, if_neg, if_true, if_false, Option.bind_some, Option.toList_some, Option.toList_none, List.cons_append, List.nil_append, e4]
    · rw [if_neg c1]
      obtain ⟨y15, y16, e⟩ := l_leH (S := S) (o := o) (g := g) (mt := mt) (rows := rows) (pl := pl) (w := w) (i := i) (nn := nn) (lk := lk) (lp := lp) (was := was) (far := far) hg 40 i nn 0 x17 (by omega) (by omega) (by omega) (by omega)
      rw [Int.zero_add] at e
      refine ⟨some (vI y15), some (vI y16), x17, ?_⟩
      · rw [← e]
        simp (disch := omega) only [eL_leap_149, eL_leap_150, eL_leap_151, eL_leap_154, eL_leap_157, eL_leap_159, eL_leap_161, eL_leap_164, eL_leap_166, eL_leap_168, eL_leap_169, eL_leap_172, eL_leap_174, eL_leap_175, eL_leap_176, eL_leap_178, eL_leap_179, eL_leap_181, eL_leap_184, eL_leap_186, eL_leap_188, eL_leap_190, eL_leap_192, eL_leap_193, eL_leap_194, eL_leap_197, eL_leap_198, eL_leap_201, eL_leap_202, if_pos, if_neg, if_true, if_false, Option.bind_some, Option.toList_some, Option.toList_none, List.cons_append, List.nil_append, e4]
end LOOKS
end LAW7
