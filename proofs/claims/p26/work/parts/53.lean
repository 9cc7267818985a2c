/-! the law's comparison with plain walking -/
section LAW13
variable {S S' : MM} {A A' : Nat → Int} {R R' : Nat → Nat → Int} {m : Nat} {H : Nat → Nat → Int} {K : Nat → Int} {V : Nat → Nat → Int} {P : Nat → Int} {n : Nat} {wd v : Int} {u : Nat}
def agR (R R' : Nat → Nat → Int) : Prop := ∀ w k : Nat, w < 3 → k < 300 → R' w k = R w k
theorem agR.cnt (h : agR R R') {w k : Nat} (hw : w < 3) (hk : k ≤ 300) : cnt (R' w) k = cnt (R w) k := cnt_congr (fun j hj => by rw [h w j hw (by omega)])
theorem agR.fst (h : agR R R') {w k : Nat} (hw : w < 3) (hk : k ≤ 300) : fst (R' w) k = fst (R w) k := fst_congr hk (fun j _ hj => by rw [h w j hw hj])
theorem agR.rw (h : agR R R') (key : Int) : rwR R' key = rwR R key := by
  unfold rwR rv
  by_cases q : 0 ≤ key ∧ key < 300
  · rw [if_pos q, if_pos q, if_pos q, if_pos q, if_pos q, if_pos q, h 0 _ (by omega) (by omega), h 1 _ (by omega) (by omega), h 2 _ (by omega) (by omega)]
  · rw [if_neg q, if_neg q, if_neg q, if_neg q, if_neg q, if_neg q]
theorem agR.look (h : agR R R') : mLook A R' = mLook A R := by
  unfold mLook
  rw [h.rw]
theorem agR.leap (h : agR R R') (hr : RunR A) : mLeap A R' = mLeap A R := by
  have hn := nxtW_b A
  have b5 := hr.1
  have hb := (hr.w (w := (nxtW A).toNat) (by omega)).1
  have e : mLeapW A (R' (nxtW A).toNat) (nxtW A).toNat = mLeapW A (R (nxtW A).toNat) (nxtW A).toNat := by
    unfold mLeapW
    rw [h.cnt (by omega) (by omega), h.cnt (by omega) (by omega), h.cnt (by omega) (by omega), h.fst (by omega) (by omega)]
  unfold mLeap
  rw [e, h.look]
theorem agR.runF (h : agR R R') (hR : RB R) : ∀ (f : Nat) (A : Nat → Int), StgR A → RunR A → RunS A R → mRunF f A R' = mRunF f A R := by
  intro f
  induction f with
  | zero => intro A _ _ _; rfl
  | succ f ih =>
    intro A hA hr hs
    rw [mRunF, mRunF]
    by_cases h4 : A 4 = 1
    · have hl := leap_inv hA hr hs hR h4
      rw [if_pos h4, if_pos h4, h.leap hr, ih _ (hA.leap hr) hl.1 hl.2]
    · rw [if_neg h4, if_neg h4]
theorem l_co1 (h : XIs S A m H K V P n) : ∀ (f i b : Nat) (x11 x12 : Option VV), i + f = cnt (RA A 0) 300 → cnt (RA A 0) b = i → b ≤ 300 → (x11 = none ∨ ∃ z, x11 = some (vI z)) → ∃ y10 y11 y12, rn xL_comes (26, [some (vR 0), some (vI wd), some (vI v), some (vJ u), none, some (vI (cnt (shd (RA A) (A 0) (A 1)) b)), some (vI (sumk (rwB (RA A) (A 0) (A 1)) b)), some (vI (gF (shd (RA A) (A 0) (A 1)) b)), some (vI (gB (shd (RA A) (A 0) (A 1)) b)), some (vI (gW (shd (RA A) (A 0) (A 1)) b)), some (vI (i : Int)), x11, x12, none, none, none, none, none, none, none], [], S) = rn xL_comes (152, [some (vR 0), some (vI wd), some (vI v), some (vJ u), none, some (vI (cnt (shd (RA A) (A 0) (A 1)) 300)), some (vI (sumk (rwB (RA A) (A 0) (A 1)) 300)), some (vI (gF (shd (RA A) (A 0) (A 1)) 300)), some (vI (gB (shd (RA A) (A 0) (A 1)) 300)), some (vI (gW (shd (RA A) (A 0) (A 1)) 300)), some (vI y10), y11, y12, none, none, none, none, none, none, none], [], S) := by
  obtain ⟨⟨s0, s1, s2, s3⟩, hR, h40, h7, hr, hs⟩ := h.aok
  have hc40 := h40 0 (by omega)
  have e0 := r_w h (w := 0) (k := 0) (by omega) (by omega)
  have e0 : fX8_ofWalker [vR 0, vI 0, vI 0] S = some (some (vI (ofW A 0 0)), S) := e0
  rw [show ofW A 0 0 = (cnt (RA A 0) 300 : Int) from ofW_0 (w := 0) (by omega)] at e0
  have c2 := r_c2 h
  have c3 := r_c3 h
  have rz : ∀ k : Nat, k < 300 → ¬ 0 < RA A 0 k → shd (RA A) (A 0) (A 1) k = 0 ∧ rwB (RA A) (A 0) (A 1) k = 0 := fun k hk q => by
    have hz := rwR_z hR (w := 0) (by omega) hk q
    unfold shd rwB
    rw [hz, if_neg (by omega)]
    refine ⟨rfl, ?_⟩
    split <;> rfl
  intro f
  induction f with
  | zero =>
    intro i b x11 x12 h1 h2 h3 hx
    have hz : ∀ k, b ≤ k → k < 300 → ¬ 0 < RA A 0 k := fun k q1 q2 q => by
      have c1 := cnt_lt (r := RA A 0) q2 q
      have c4 := cnt_mono (RA A 0) q1
      omega
    have g1 : cnt (shd (RA A) (A 0) (A 1)) 300 = cnt (shd (RA A) (A 0) (A 1)) b := cnt_skip h3 (fun j q1 q2 => by rw [(rz j q2 (hz j q1 q2)).1]; decide)
    have g2 : sumk (rwB (RA A) (A 0) (A 1)) 300 = sumk (rwB (RA A) (A 0) (A 1)) b := sumk_skip h3 (fun j q1 q2 => (rz j q2 (hz j q1 q2)).2)
    have g3 : gF (shd (RA A) (A 0) (A 1)) 300 = gF (shd (RA A) (A 0) (A 1)) b := gF_skip h3 (fun j q1 q2 => by rw [(rz j q2 (hz j q1 q2)).1]; decide)
    have g4 : gB (shd (RA A) (A 0) (A 1)) 300 = gB (shd (RA A) (A 0) (A 1)) b := gB_skip h3 (fun j q1 q2 => by rw [(rz j q2 (hz j q1 q2)).1]; decide)
    have g5 : gW (shd (RA A) (A 0) (A 1)) 300 = gW (shd (RA A) (A 0) (A 1)) b := gW_skip h3 (fun j q1 q2 => by rw [(rz j q2 (hz j q1 q2)).1]; decide)
    rw [g1, g2, g3, g4, g5]
    refine ⟨i, x11, x12, ?_⟩
    rw [eL_comes_26]
    simp (disch := omega) only [eL_comes_28, eL_comes_29, eL_comes_30, eL_comes_31, eL_comes_34, eL_comes_37, eL_comes_38, eL_comes_39, eL_comes_41, eL_comes_42, eL_comes_45, eL_comes_47, eL_comes_48, eL_comes_49, eL_comes_51, eL_comes_52, eL_comes_55, eL_comes_56, eL_comes_57, eL_comes_59, eL_comes_62, eL_comes_63, eL_comes_64, eL_comes_65, eL_comes_67, eL_comes_70, eL_comes_71, eL_comes_73, eL_comes_75, eL_comes_76, eL_comes_77, eL_comes_80, eL_comes_83, eL_comes_85, eL_comes_86, eL_comes_87, eL_comes_90, eL_comes_93, eL_comes_95, eL_comes_98, eL_comes_101, eL_comes_103, eL_comes_106, eL_comes_108, eL_comes_110, eL_comes_112, eL_comes_115, eL_comes_117, eL_comes_119, eL_comes_120, eL_comes_122, eL_comes_125, eL_comes_127, eL_comes_129, eL_comes_130, eL_comes_132, eL_comes_134, eL_comes_136, eL_comes_139, eL_comes_141, eL_comes_143, eL_comes_144, eL_comes_146, eL_comes_149, if_pos, if_neg, if_true, if_false, Option.bind_some, Option.toList_some, Option.toList_none, List.cons_append, List.nil_append, e0]
  | succ f ih =>
    intro i b x11 x12 h1 h2 h3 hx
    obtain ⟨j, j1, j2, j3, j4, j5, j6⟩ := cnt_next (r := RA A 0) (b := b) (i := i) h2 (by omega)
    have g1 : cnt (shd (RA A) (A 0) (A 1)) j = cnt (shd (RA A) (A 0) (A 1)) b := cnt_skip j4 (fun x q1 q2 => by rw [(rz x (by omega) (j5 x q1 q2)).1]; decide)
    have g2 : sumk (rwB (RA A) (A 0) (A 1)) j = sumk (rwB (RA A) (A 0) (A 1)) b := sumk_skip j4 (fun x q1 q2 => (rz x (by omega) (j5 x q1 q2)).2)
    have g3 : gF (shd (RA A) (A 0) (A 1)) j = gF (shd (RA A) (A 0) (A 1)) b := gF_skip j4 (fun x q1 q2 => by rw [(rz x (by omega) (j5 x q1 q2)).1]; decide)
    have g4 : gB (shd (RA A) (A 0) (A 1)) j = gB (shd (RA A) (A 0) (A 1)) b := gB_skip j4 (fun x q1 q2 => by rw [(rz x (by omega) (j5 x q1 q2)).1]; decide)
    have g5 : gW (shd (RA A) (A 0) (A 1)) j = gW (shd (RA A) (A 0) (A 1)) b := gW_skip j4 (fun x q1 q2 => by rw [(rz x (by omega) (j5 x q1 q2)).1]; decide)
    have kk : kth (RA A 0) i = j := kth_u j1 j2 j3
    have k0 := s_ofStoneK h (w := 0) (j := i) (what := 0) (by omega) (by omega) (by omega)
    have k0 : fX8_ofStone [vR 0, vI 0, vI (i : Int), vI 0] S = some (some (vI (if (0 : Int) = 0 then (kth (RA A 0) i : Int) else RA A 0 (kth (RA A 0) i))), S) := k0
    have k1 := s_ofStoneK h (w := 0) (j := i) (what := 1) (by omega) (by omega) (by omega)
    have k1 : fX8_ofStone [vR 0, vI 0, vI (i : Int), vI 1] S = some (some (vI (if (1 : Int) = 0 then (kth (RA A 0) i : Int) else RA A 0 (kth (RA A 0) i))), S) := k1
    rw [kk, if_pos rfl] at k0
    rw [kk, if_neg (by decide)] at k1
    have y1 : fL_repeats [vR 0, vI 1, vI (j : Int)] S = some (some (vI (RA A 1 j)), S) := s_repeats h (w := 1) (by omega) j1
    have y2 : fL_repeats [vR 0, vI 2, vI (j : Int)] S = some (some (vI (RA A 2 j)), S) := s_repeats h (w := 2) (by omega) j1
    have hm3 := mul3_b (hR 0 j (by omega) j1) (hR 1 j (by omega) j1) (hR 2 j (by omega) j1)
    have hrw : rwR (RA A) (j : Int) = RA A 0 j * RA A 1 j * RA A 2 j := by
      unfold rwR
      rw [rv_in j1, rv_in j1, rv_in j1]
    generalize hgv : RA A 0 j * RA A 1 j * RA A 2 j = gv at hm3 hrw
    have hsd : shd (RA A) (A 0) (A 1) j = if (A 0 ≤ (j : Int) ∧ (j : Int) ≤ A 1) ∧ 0 < gv then 1 else 0 := by unfold shd; rw [hrw]
    have hrb : rwB (RA A) (A 0) (A 1) j = if A 0 ≤ (j : Int) ∧ (j : Int) ≤ A 1 then gv else 0 := by unfold rwB; rw [hrw]
    obtain ⟨y10, y11, y12, i1⟩ := ih (i + 1) (j + 1) (some (vI (j : Int))) (some (vI gv)) (by omega) j6 (by omega) (Or.inr ⟨_, rfl⟩)
    refine ⟨y10, y11, y12, ?_⟩
    rw [← i1, cnt_s, sumk, gF, gB, gW, g1, g2, g3, g4, g5, hsd, hrb]
    clear i1 ih rz
    have bF := gF_b (shd (RA A) (A 0) (A 1)) b
    have bB := gB_b (shd (RA A) (A 0) (A 1)) b
    have bW := gW_b (shd (RA A) (A 0) (A 1)) b
    have cb := cnt_le (shd (RA A) (A 0) (A 1)) b
    generalize gF (shd (RA A) (A 0) (A 1)) b = vF at bF
    generalize gB (shd (RA A) (A 0) (A 1)) b = vB at bB
    generalize gW (shd (RA A) (A 0) (A 1)) b = vW at bW
    generalize cnt (shd (RA A) (A 0) (A 1)) b = vC at cb
    generalize sumk (rwB (RA A) (A 0) (A 1)) b = vS
    by_cases q : (A 0 ≤ (j : Int) ∧ (j : Int) ≤ A 1) ∧ 0 < gv
    · rw [if_pos q, if_pos q.1, if_pos (show (0 : Int) < 1 by decide), if_pos (show (0 : Int) < 1 by decide)]
      rw [show ((vC + 1 : Nat) : Int) = (vC : Int) + 1 by omega, show ((i + 1 : Nat) : Int) = (i : Int) + 1 by omega]
      rw [eL_comes_26]
      by_cases c1 : vF = -6
      · rw [if_pos (show vF = -6 ∧ (0 : Int) < 1 from ⟨c1, by decide⟩)]
        by_cases c2' : vB = -6
        · rw [if_neg (show ¬ ((0 : Int) < 1 ∧ vB ≠ -6) from fun z => z.2 c2')]
          simp (disch := omega) only [eL_comes_28, eL_comes_29, eL_comes_30, eL_comes_31, eL_comes_34, eL_comes_37, eL_comes_38, eL_comes_39, eL_comes_41, eL_comes_42, eL_comes_45, eL_comes_47, eL_comes_48, eL_comes_49, eL_comes_51, eL_comes_52, eL_comes_55, eL_comes_56, eL_comes_57, eL_comes_59, eL_comes_62, eL_comes_63, eL_comes_64, eL_comes_65, eL_comes_67, eL_comes_70, eL_comes_71, eL_comes_73, eL_comes_75, eL_comes_76, eL_comes_77, eL_comes_80, eL_comes_83, eL_comes_85, eL_comes_86, eL_comes_87, eL_comes_90, eL_comes_93, eL_comes_95, eL_comes_98, eL_comes_101, eL_comes_103, eL_comes_106, eL_comes_108, eL_comes_110, eL_comes_112, eL_comes_115, eL_comes_117, eL_comes_119, eL_comes_120, eL_comes_122, eL_comes_125, eL_comes_127, eL_comes_129, eL_comes_130, eL_comes_132, eL_comes_134, eL_comes_136, eL_comes_139, eL_comes_141, eL_comes_143, eL_comes_144, eL_comes_146, eL_comes_149, if_pos, if_neg, if_true, if_false, Option.bind_some, Option.toList_some, Option.toList_none, List.cons_append, List.nil_append, e0, k0, k1, y1, y2, hgv, c2, c3]
        · rw [if_pos (show (0 : Int) < 1 ∧ vB ≠ -6 from ⟨by decide, c2'⟩)]
          by_cases c3' : vW < (j : Int) - vB
          · rw [if_pos c3']
            simp (disch := omega) only [eL_comes_28, eL_comes_29, eL_comes_30, eL_comes_31, eL_comes_34, eL_comes_37, eL_comes_38, eL_comes_39, eL_comes_41, eL_comes_42, eL_comes_45, eL_comes_47, eL_comes_48, eL_comes_49, eL_comes_51, eL_comes_52, eL_comes_55, eL_comes_56, eL_comes_57, eL_comes_59, eL_comes_62, eL_comes_63, eL_comes_64, eL_comes_65, eL_comes_67, eL_comes_70, eL_comes_71, eL_comes_73, eL_comes_75, eL_comes_76, eL_comes_77, eL_comes_80, eL_comes_83, eL_comes_85, eL_comes_86, eL_comes_87, eL_comes_90, eL_comes_93, eL_comes_95, eL_comes_98, eL_comes_101, eL_comes_103, eL_comes_106, eL_comes_108, eL_comes_110, eL_comes_112, eL_comes_115, eL_comes_117, eL_comes_119, eL_comes_120, eL_comes_122, eL_comes_125, eL_comes_127, eL_comes_129, eL_comes_130, eL_comes_132, eL_comes_134, eL_comes_136, eL_comes_139, eL_comes_141, eL_comes_143, eL_comes_144, eL_comes_146, eL_comes_149, if_pos, if_neg, if_true, if_false, Option.bind_some, Option.toList_some, Option.toList_none, List.cons_append, List.nil_append, e0, k0, k1, y1, y2, hgv, c2, c3]
          · rw [if_neg c3']
            simp (disch := omega) only [eL_comes_28, eL_comes_29, eL_comes_30, eL_comes_31, eL_comes_34, eL_comes_37, eL_comes_38, eL_comes_39, eL_comes_41, eL_comes_42, eL_comes_45, eL_comes_47, eL_comes_48, eL_comes_49, eL_comes_51, eL_comes_52, eL_comes_55, eL_comes_56, eL_comes_57, eL_comes_59, eL_comes_62, eL_comes_63, eL_comes_64, eL_comes_65, eL_comes_67, eL_comes_70, eL_comes_71, eL_comes_73, eL_comes_75, eL_comes_76, eL_comes_77, eL_comes_80, eL_comes_83, eL_comes_85, eL_comes_86, eL_comes_87, eL_comes_90, eL_comes_93, eL_comes_95, eL_comes_98, eL_comes_101, eL_comes_103, eL_comes_106, eL_comes_108, eL_comes_110, eL_comes_112, eL_comes_115, eL_comes_117, eL_comes_119, eL_comes_120, eL_comes_122, eL_comes_125, eL_comes_127, eL_comes_129, eL_comes_130, eL_comes_132, eL_comes_134, eL_comes_136, eL_comes_139, eL_comes_141, eL_comes_143, eL_comes_144, eL_comes_146, eL_comes_149, if_pos, if_neg, if_true, if_false, Option.bind_some, Option.toList_some, Option.toList_none, List.cons_append, List.nil_append, e0, k0, k1, y1, y2, hgv, c2, c3]
      · rw [if_neg (show ¬ (vF = -6 ∧ (0 : Int) < 1) from fun z => c1 z.1)]
        by_cases c2' : vB = -6
        · rw [if_neg (show ¬ ((0 : Int) < 1 ∧ vB ≠ -6) from fun z => z.2 c2')]
          simp (disch := omega) only [eL_comes_28, eL_comes_29, eL_comes_30, eL_comes_31, eL_comes_34, eL_comes_37, eL_comes_38, eL_comes_39, eL_comes_41, eL_comes_42, eL_comes_45, eL_comes_47, eL_comes_48, eL_comes_49, eL_comes_51, eL_comes_52, eL_comes_55, eL_comes_56, eL_comes_57, eL_comes_59, eL_comes_62, eL_comes_63, eL_comes_64, eL_comes_65, eL_comes_67, eL_comes_70, eL_comes_71, eL_comes_73, eL_comes_75, eL_comes_76, eL_comes_77, eL_comes_80, eL_comes_83, eL_comes_85, eL_comes_86, eL_comes_87, eL_comes_90, eL_comes_93, eL_comes_95, eL_comes_98, eL_comes_101, eL_comes_103, eL_comes_106, eL_comes_108, eL_comes_110, eL_comes_112, eL_comes_115, eL_comes_117, eL_comes_119, eL_comes_120, eL_comes_122, eL_comes_125, eL_comes_127, eL_comes_129, eL_comes_130, eL_comes_132, eL_comes_134, eL_comes_136, eL_comes_139, eL_comes_141, eL_comes_143, eL_comes_144, eL_comes_146, eL_comes_149, if_pos, if_neg, if_true, if_false, Option.bind_some, Option.toList_some, Option.toList_none, List.cons_append, List.nil_append, e0, k0, k1, y1, y2, hgv, c2, c3]
        · rw [if_pos (show (0 : Int) < 1 ∧ vB ≠ -6 from ⟨by decide, c2'⟩)]
          by_cases c3' : vW < (j : Int) - vB
          · rw [if_pos c3']
            simp (disch := omega) only [eL_comes_28, eL_comes_29, eL_comes_30, eL_comes_31, eL_comes_34, eL_comes_37, eL_comes_38, eL_comes_39, eL_comes_41, eL_comes_42, eL_comes_45, eL_comes_47, eL_comes_48, eL_comes_49, eL_comes_51, eL_comes_52, eL_comes_55, eL_comes_56, eL_comes_57, eL_comes_59, eL_comes_62, eL_comes_63, eL_comes_64, eL_comes_65, eL_comes_67, eL_comes_70, eL_comes_71, eL_comes_73, eL_comes_75, eL_comes_76, eL_comes_77, eL_comes_80, eL_comes_83, eL_comes_85, eL_comes_86, eL_comes_87, eL_comes_90, eL_comes_93, eL_comes_95, eL_comes_98, eL_comes_101, eL_comes_103, eL_comes_106, eL_comes_108, eL_comes_110, eL_comes_112, eL_comes_115, eL_comes_117, eL_comes_119, eL_comes_120, eL_comes_122, eL_comes_125, eL_comes_127, eL_comes_129, eL_comes_130, eL_comes_132, eL_comes_134, eL_comes_136, eL_comes_139, eL_comes_141, eL_comes_143, eL_comes_144, eL_comes_146, eL_comes_149, if_pos, if_neg, if_true, if_false, Option.bind_some, Option.toList_some, Option.toList_none, List.cons_append, List.nil_append, e0, k0, k1, y1, y2, hgv, c2, c3]
          · rw [if_neg c3']
            simp (disch := omega) only [eL_comes_28, eL_comes_29, eL_comes_30, eL_comes_31, eL_comes_34, eL_comes_37, eL_comes_38, eL_comes_39, eL_comes_41, eL_comes_42, eL_comes_45, eL_comes_47, eL_comes_48, eL_comes_49, eL_comes_51, eL_comes_52, eL_comes_55, eL_comes_56, eL_comes_57, eL_comes_59, eL_comes_62, eL_comes_63, eL_comes_64, eL_comes_65, eL_comes_67, eL_comes_70, eL_comes_71, eL_comes_73, eL_comes_75, eL_comes_76, eL_comes_77, eL_comes_80, eL_comes_83, eL_comes_85, eL_comes_86, eL_comes_87, eL_comes_90, eL_comes_93, eL_comes_95, eL_comes_98, eL_comes_101, eL_comes_103, eL_comes_106, eL_comes_108, eL_comes_110, eL_comes_112, eL_comes_115, eL_comes_117, eL_comes_119, eL_comes_120, eL_comes_122, eL_comes_125, eL_comes_127, eL_comes_129, eL_comes_130, eL_comes_132, eL_comes_134, eL_comes_136, eL_comes_139, eL_comes_141, eL_comes_143, eL_comes_144, eL_comes_146, eL_comes_149, if_pos, if_neg, if_true, if_false, Option.bind_some, Option.toList_some, Option.toList_none, List.cons_append, List.nil_append, e0, k0, k1, y1, y2, hgv, c2, c3]
    · have hzr : (if A 0 ≤ (j : Int) ∧ (j : Int) ≤ A 1 then gv else 0) = 0 := by
        split
        next z => have := hm3.1; omega
        next z => rfl
      rw [if_neg q, hzr, if_neg (show ¬ (0 : Int) < 0 by decide), if_neg (show ¬ (vF = -6 ∧ (0 : Int) < 0) from fun z => absurd z.2 (by decide)), if_neg (show ¬ (0 : Int) < 0 by decide), if_neg (show ¬ ((0 : Int) < 0 ∧ vB ≠ -6) from fun z => absurd z.1 (by decide))]
      rw [show vC + 0 = vC from rfl, Int.add_zero, show ((i + 1 : Nat) : Int) = (i : Int) + 1 by omega]
      rw [eL_comes_26]
      by_cases c1 : (j : Int) < A 0
      · simp (disch := omega) only [eL_comes_28, eL_comes_29, eL_comes_30, eL_comes_31, eL_comes_34, eL_comes_37, eL_comes_38, eL_comes_39, eL_comes_41, eL_comes_42, eL_comes_45, eL_comes_47, eL_comes_48, eL_comes_49, eL_comes_51, eL_comes_52, eL_comes_55, eL_comes_56, eL_comes_57, eL_comes_59, eL_comes_62, eL_comes_63, eL_comes_64, eL_comes_65, eL_comes_67, eL_comes_70, eL_comes_71, eL_comes_73, eL_comes_75, eL_comes_76, eL_comes_77, eL_comes_80, eL_comes_83, eL_comes_85, eL_comes_86, eL_comes_87, eL_comes_90, eL_comes_93, eL_comes_95, eL_comes_98, eL_comes_101, eL_comes_103, eL_comes_106, eL_comes_108, eL_comes_110, eL_comes_112, eL_comes_115, eL_comes_117, eL_comes_119, eL_comes_120, eL_comes_122, eL_comes_125, eL_comes_127, eL_comes_129, eL_comes_130, eL_comes_132, eL_comes_134, eL_comes_136, eL_comes_139, eL_comes_141, eL_comes_143, eL_comes_144, eL_comes_146, eL_comes_149, if_pos, if_neg, if_true, if_false, Option.bind_some, Option.toList_some, Option.toList_none, List.cons_append, List.nil_append, e0, k0, k1, y1, y2, hgv, c2, c3]
      · by_cases c4 : A 1 < (j : Int)
        · simp (disch := omega) only [eL_comes_28, eL_comes_29, eL_comes_30, eL_comes_31, eL_comes_34, eL_comes_37, eL_comes_38, eL_comes_39, eL_comes_41, eL_comes_42, eL_comes_45, eL_comes_47, eL_comes_48, eL_comes_49, eL_comes_51, eL_comes_52, eL_comes_55, eL_comes_56, eL_comes_57, eL_comes_59, eL_comes_62, eL_comes_63, eL_comes_64, eL_comes_65, eL_comes_67, eL_comes_70, eL_comes_71, eL_comes_73, eL_comes_75, eL_comes_76, eL_comes_77, eL_comes_80, eL_comes_83, eL_comes_85, eL_comes_86, eL_comes_87, eL_comes_90, eL_comes_93, eL_comes_95, eL_comes_98, eL_comes_101, eL_comes_103, eL_comes_106, eL_comes_108, eL_comes_110, eL_comes_112, eL_comes_115, eL_comes_117, eL_comes_119, eL_comes_120, eL_comes_122, eL_comes_125, eL_comes_127, eL_comes_129, eL_comes_130, eL_comes_132, eL_comes_134, eL_comes_136, eL_comes_139, eL_comes_141, eL_comes_143, eL_comes_144, eL_comes_146, eL_comes_149, if_pos, if_neg, if_true, if_false, Option.bind_some, Option.toList_some, Option.toList_none, List.cons_append, List.nil_append, e0, k0, k1, y1, y2, hgv, c2, c3]
        · simp (disch := omega) only [eL_comes_28, eL_comes_29, eL_comes_30, eL_comes_31, eL_comes_34, eL_comes_37, eL_comes_38, eL_comes_39, eL_comes_41, eL_comes_42, eL_comes_45, eL_comes_47, eL_comes_48, eL_comes_49, eL_comes_51, eL_comes_52, eL_comes_55, eL_comes_56, eL_comes_57, eL_comes_59, eL_comes_62, eL_comes_63, eL_comes_64, eL_comes_65, eL_comes_67, eL_comes_70, eL_comes_71, eL_comes_73, eL_comes_75, eL_comes_76, eL_comes_77, eL_comes_80, eL_comes_83, eL_comes_85, eL_comes_86, eL_comes_87, eL_comes_90, eL_comes_93, eL_comes_95, eL_comes_98, eL_comes_101, eL_comes_103, eL_comes_106, eL_comes_108, eL_comes_110, eL_comes_112, eL_comes_115, eL_comes_117, eL_comes_119, eL_comes_120, eL_comes_122, eL_comes_125, eL_comes_127, eL_comes_129, eL_comes_130, eL_comes_132, eL_comes_134, eL_comes_136, eL_comes_139, eL_comes_141, eL_comes_143, eL_comes_144, eL_comes_146, eL_comes_149, if_pos, if_neg, if_true, if_false, Option.bind_some, Option.toList_some, Option.toList_none, List.cons_append, List.nil_append, e0, k0, k1, y1, y2, hgv, c2, c3]
/-- the cheapest, found as the law finds it -/
def lwB (A : Nat → Int) (k : Nat) : Int := if k = 0 then -1 else (bK (lkF A) k : Int)
def lwL (A : Nat → Int) (k : Nat) : Int := if k = 0 then 0 else lkF A (bK (lkF A) k)
theorem l_co2 {mt rw fi la wi : Int} : ∀ (f k : Nat) (S : MM) (x13 : Option VV), k + f = 18 → LWs S A m H K V P n → ∃ (S' : MM) (y13 : Option VV), rn xL_comes (213, [some (vR 0), some (vI wd), some (vI v), some (vJ u), none, some (vI mt), some (vI rw), some (vI fi), some (vI la), some (vI wi), some (vI (lwB A k)), some (vI (lwL A k)), some (vI (k : Int)), x13, none, none, none, none, none, none], [], S) = rn xL_comes (263, [some (vR 0), some (vI wd), some (vI v), some (vJ u), none, some (vI mt), some (vI rw), some (vI fi), some (vI la), some (vI wi), some (vI (lwB A 18)), some (vI (lwL A 18)), some (vI 18), y13, none, none, none, none, none, none], [], S') ∧ LWs S' A m H K V P n ∧ fr S S' := by
  intro f
  induction f with
  | zero =>
    intro k S x13 h1 h
    obtain rfl : k = 18 := by omega
    refine ⟨S, x13, ?_, h, fr.refl⟩
    rw [eL_comes_213, show ((18 : Nat) : Int) = 18 from rfl]
    simp (disch := omega) only [eL_comes_215, eL_comes_217, eL_comes_220, eL_comes_221, eL_comes_223, eL_comes_225, eL_comes_226, eL_comes_228, eL_comes_230, eL_comes_231, eL_comes_232, eL_comes_235, eL_comes_237, eL_comes_239, eL_comes_242, eL_comes_244, eL_comes_246, eL_comes_249, eL_comes_251, eL_comes_253, eL_comes_255, eL_comes_257, eL_comes_260, if_pos, if_neg, if_true, if_false, Option.bind_some, Option.toList_some, Option.toList_none, List.cons_append, List.nil_append]
  | succ f ih =>
    intro k S x13 h1 h
    have ha := h.1.aok
    have lb := lkF_b ha.1 ha.2.1 (k := k) (by omega)
    obtain ⟨S1, e1, L1, g1⟩ := o_runWith h (s := (k : Int) / 6) (o := (k : Int) % 6) (what := 1) (by omega) (by omega) (by omega)
    have el : rwF A ((k : Int) / 6) ((k : Int) % 6) 1 = lkF A k := by
      unfold rwF lkF
      rw [if_pos (by omega), if_neg (by decide), show (k : Int) / 6 = ((k / 6 : Nat) : Int) by omega, show (k : Int) % 6 = ((k % 6 : Nat) : Int) by omega]
    rw [el] at e1
    obtain ⟨S2, y13, i2, L2, g2⟩ := ih (k + 1) S1 (some (vI (lkF A k))) (by omega) L1
    refine ⟨S2, y13, ?_, L2, g1.trans g2⟩
    rw [← i2]
    have eB : lwB A (k + 1) = if k = 0 ∨ lkF A k < lwL A k then (k : Int) else lwB A k := by
      unfold lwB lwL
      rw [if_neg (by omega), bK]
      by_cases q : k = 0
      · rw [if_pos (Or.inl q), if_pos (Or.inl q)]
      · rw [if_neg (c := k = 0) q, if_neg (c := k = 0) q]
        split <;> rfl
    have eL : lwL A (k + 1) = if k = 0 ∨ lkF A k < lwL A k then lkF A k else lwL A k := by
      unfold lwL
      rw [if_neg (by omega), bK]
      by_cases q : k = 0
      · rw [if_pos (Or.inl q), if_pos (Or.inl q)]
      · rw [if_neg (c := k = 0) q]
        split <;> rfl
    have bb : (k = 0 ∧ lwB A k = -1 ∧ lwL A k = 0) ∨ (k ≠ 0 ∧ (0 ≤ lwB A k ∧ lwB A k < k) ∧ (0 ≤ lwL A k ∧ lwL A k ≤ 72000)) := by
      unfold lwB lwL
      by_cases q : k = 0
      · left
        rw [if_pos q, if_pos q]
        exact ⟨q, rfl, rfl⟩
      · right
        have h1 := bK_lt (f := lkF A) (k := k) (by omega)
        have h2 := lkF_b ha.1 ha.2.1 (k := bK (lkF A) k) (by omega)
        rw [if_neg q, if_neg q]
        exact ⟨q, by omega, h2⟩
    rw [eB, eL, show ((k + 1 : Nat) : Int) = (k : Int) + 1 by omega, eL_comes_213]
    rcases bb with ⟨q, b1, b2⟩ | ⟨q, b1, b2⟩
    · rw [if_pos (Or.inl q), if_pos (Or.inl q)]
      simp (disch := omega) only [eL_comes_215, eL_comes_217, eL_comes_220, eL_comes_221, eL_comes_223, eL_comes_225, eL_comes_226, eL_comes_228, eL_comes_230, eL_comes_231, eL_comes_232, eL_comes_235, eL_comes_237, eL_comes_239, eL_comes_242, eL_comes_244, eL_comes_246, eL_comes_249, eL_comes_251, eL_comes_253, eL_comes_255, eL_comes_257, eL_comes_260, if_pos, if_neg, if_true, if_false, Option.bind_some, Option.toList_some, Option.toList_none, List.cons_append, List.nil_append, e1]
    · by_cases q2 : lkF A k < lwL A k
      · rw [if_pos (Or.inr q2), if_pos (Or.inr q2)]
        simp (disch := omega) only [eL_comes_215, eL_comes_217, eL_comes_220, eL_comes_221, eL_comes_223, eL_comes_225, eL_comes_226, eL_comes_228, eL_comes_230, eL_comes_231, eL_comes_232, eL_comes_235, eL_comes_237, eL_comes_239, eL_comes_242, eL_comes_244, eL_comes_246, eL_comes_249, eL_comes_251, eL_comes_253, eL_comes_255, eL_comes_257, eL_comes_260, if_pos, if_neg, if_true, if_false, Option.bind_some, Option.toList_some, Option.toList_none, List.cons_append, List.nil_append, e1]
      · rw [if_neg (show ¬ (k = 0 ∨ lkF A k < lwL A k) from fun z => z.elim q q2), if_neg (show ¬ (k = 0 ∨ lkF A k < lwL A k) from fun z => z.elim q q2)]
        simp (disch := omega) only [eL_comes_215, eL_comes_217, eL_comes_220, eL_comes_221, eL_comes_223, eL_comes_225, eL_comes_226, eL_comes_228, eL_comes_230, eL_comes_231, eL_comes_232, eL_comes_235, eL_comes_237, eL_comes_239, eL_comes_242, eL_comes_244, eL_comes_246, eL_comes_249, eL_comes_251, eL_comes_253, eL_comes_255, eL_comes_257, eL_comes_260, if_pos, if_neg, if_true, if_false, Option.bind_some, Option.toList_some, Option.toList_none, List.cons_append, List.nil_append, e1]
end LAW13
