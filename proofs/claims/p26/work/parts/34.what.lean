/-! the class's what-ifs -/
section ROOT4
variable {S S' : MM} {A A' : Nat → Int} {m : Nat} {H : Nat → Nat → Int} {K : Nat → Int} {V : Nat → Nat → Int} {P : Nat → Int} {n : Nat}
def wkF (A : Nat → Int) (what : Int) : Int := if what = 0 then (cnt (shd (RA A) (A 0) (A 1)) 300 : Int) else if what = 1 then sumk (rwB (RA A) (A 0) (A 1)) 300 else if what = 2 then gF (shd (RA A) (A 0) (A 1)) 300 else if what = 3 then gB (shd (RA A) (A 0) (A 1)) 300 else if what = 4 then gW (shd (RA A) (A 0) (A 1)) 300 else -2
theorem s_walking {what : Int} (h : XIs S A m H K V P n) (hx : rng what) : fX8_walking [vR 0, vI what] S = some (some (vI (wkF A what)), S) := by
  obtain ⟨h1, -⟩ := h
  obtain ⟨i1, i2, i3, i4, i5, i6, i7, i8⟩ := h1
  obtain ⟨k0, ht, hv, hd, hc⟩ := scn0
  obtain ⟨v0, -⟩ := id hv
  obtain ⟨t0, -⟩ := id ht
  obtain ⟨x1, x2⟩ := id hx
  obtain ⟨b0, b1, -⟩ := id i2
  have hlo : rng (A 0) := ⟨by omega, by omega⟩
  have hhi : rng (A 1) := ⟨by omega, by omega⟩
  have e1 := s_valueOf (S := S) (j := 0) ht (by omega)
  have e2 := s_valueOf (S := S) (j := 1) ht (by omega)
  rw [tn0, i1 0 (by omega)] at e1
  rw [tn1, i1 1 (by omega)] at e2
  rw [uX8_walking]
  unfold wkF
  by_cases c0 : what = 0
  · have e3 := s_sharedKeys hv i3 hlo hhi
    rw [if_pos c0]
    simp (disch := omega) only [eX8_walking_0, eX8_walking_1, eX8_walking_4, eX8_walking_7, eX8_walking_8, eX8_walking_11, eX8_walking_12, eX8_walking_13, eX8_walking_16, eX8_walking_19, eX8_walking_20, eX8_walking_23, eX8_walking_24, eX8_walking_25, eX8_walking_60, eX8_walking_61, eX8_walking_64, eX8_walking_67, eX8_walking_68, eX8_walking_69, eX8_walking_72, eX8_walking_73, eX8_walking_74, eX8_walking_77, eX8_walking_80, eX8_walking_81, eX8_walking_82, eX8_walking_85, eX8_walking_86, eX8_walking_87, eX8_walking_90, eX8_walking_93, eX8_walking_94, eX8_walking_95, eX8_walking_98, eX8_walking_99, eX8_walking_100, eX8_walking_103, eX8_walking_106, eX8_walking_107, eX8_walking_108, eX8_walking_111, eX8_walking_112, eX8_walking_113, eX8_walking_116, eX8_walking_119, eX8_walking_120, eX8_walking_121, eX8_walking_124, eX8_walking_125, eX8_walking_127, if_pos, if_neg, if_true, if_false, Option.bind_some, Option.toList_some, Option.toList_none, List.cons_append, List.nil_append, e1, e2, e3]
  · rw [if_neg c0]
    by_cases c1 : what = 1
    · have e3 := s_rowsBetween hv i3 hlo hhi
      rw [if_pos c1]
      simp (disch := omega) only [eX8_walking_0, eX8_walking_1, eX8_walking_4, eX8_walking_7, eX8_walking_8, eX8_walking_11, eX8_walking_12, eX8_walking_13, eX8_walking_16, eX8_walking_19, eX8_walking_20, eX8_walking_23, eX8_walking_24, eX8_walking_25, eX8_walking_60, eX8_walking_61, eX8_walking_64, eX8_walking_67, eX8_walking_68, eX8_walking_69, eX8_walking_72, eX8_walking_73, eX8_walking_74, eX8_walking_77, eX8_walking_80, eX8_walking_81, eX8_walking_82, eX8_walking_85, eX8_walking_86, eX8_walking_87, eX8_walking_90, eX8_walking_93, eX8_walking_94, eX8_walking_95, eX8_walking_98, eX8_walking_99, eX8_walking_100, eX8_walking_103, eX8_walking_106, eX8_walking_107, eX8_walking_108, eX8_walking_111, eX8_walking_112, eX8_walking_113, eX8_walking_116, eX8_walking_119, eX8_walking_120, eX8_walking_121, eX8_walking_124, eX8_walking_125, eX8_walking_127, if_pos, if_neg, if_true, if_false, Option.bind_some, Option.toList_some, Option.toList_none, List.cons_append, List.nil_append, e1, e2, e3]
    · rw [if_neg c1]
      by_cases c2 : what = 2
      · have e3 := s_firstShared hv i3 hlo hhi
        rw [if_pos c2]
        simp (disch := omega) only [eX8_walking_0, eX8_walking_1, eX8_walking_4, eX8_walking_7, eX8_walking_8, eX8_walking_11, eX8_walking_12, eX8_walking_13, eX8_walking_16, eX8_walking_19, eX8_walking_20, eX8_walking_23, eX8_walking_24, eX8_walking_25, eX8_walking_60, eX8_walking_61, eX8_walking_64, eX8_walking_67, eX8_walking_68, eX8_walking_69, eX8_walking_72, eX8_walking_73, eX8_walking_74, eX8_walking_77, eX8_walking_80, eX8_walking_81, eX8_walking_82, eX8_walking_85, eX8_walking_86, eX8_walking_87, eX8_walking_90, eX8_walking_93, eX8_walking_94, eX8_walking_95, eX8_walking_98, eX8_walking_99, eX8_walking_100, eX8_walking_103, eX8_walking_106, eX8_walking_107, eX8_walking_108, eX8_walking_111, eX8_walking_112, eX8_walking_113, eX8_walking_116, eX8_walking_119, eX8_walking_120, eX8_walking_121, eX8_walking_124, eX8_walking_125, eX8_walking_127, if_pos, if_neg, if_true, if_false, Option.bind_some, Option.toList_some, Option.toList_none, List.cons_append, List.nil_append, e1, e2, e3]
      · rw [if_neg c2]
        by_cases c3 : what = 3
        · have e3 := s_lastShared hv i3 hlo hhi
          rw [if_pos c3]
          simp (disch := omega) only [eX8_walking_0, eX8_walking_1, eX8_walking_4, eX8_walking_7, eX8_walking_8, eX8_walking_11, eX8_walking_12, eX8_walking_13, eX8_walking_16, eX8_walking_19, eX8_walking_20, eX8_walking_23, eX8_walking_24, eX8_walking_25, eX8_walking_60, eX8_walking_61, eX8_walking_64, eX8_walking_67, eX8_walking_68, eX8_walking_69, eX8_walking_72, eX8_walking_73, eX8_walking_74, eX8_walking_77, eX8_walking_80, eX8_walking_81, eX8_walking_82, eX8_walking_85, eX8_walking_86, eX8_walking_87, eX8_walking_90, eX8_walking_93, eX8_walking_94, eX8_walking_95, eX8_walking_98, eX8_walking_99, eX8_walking_100, eX8_walking_103, eX8_walking_106, eX8_walking_107, eX8_walking_108, eX8_walking_111, eX8_walking_112, eX8_walking_113, eX8_walking_116, eX8_walking_119, eX8_walking_120, eX8_walking_121, eX8_walking_124, eX8_walking_125, eX8_walking_127, if_pos, if_neg, if_true, if_false, Option.bind_some, Option.toList_some, Option.toList_none, List.cons_append, List.nil_append, e1, e2, e3]
        · rw [if_neg c3]
          by_cases c4 : what = 4
          · have e3 := s_widestGap hv i3 hlo hhi
            rw [if_pos c4]
            simp (disch := omega) only [eX8_walking_0, eX8_walking_1, eX8_walking_4, eX8_walking_7, eX8_walking_8, eX8_walking_11, eX8_walking_12, eX8_walking_13, eX8_walking_16, eX8_walking_19, eX8_walking_20, eX8_walking_23, eX8_walking_24, eX8_walking_25, eX8_walking_60, eX8_walking_61, eX8_walking_64, eX8_walking_67, eX8_walking_68, eX8_walking_69, eX8_walking_72, eX8_walking_73, eX8_walking_74, eX8_walking_77, eX8_walking_80, eX8_walking_81, eX8_walking_82, eX8_walking_85, eX8_walking_86, eX8_walking_87, eX8_walking_90, eX8_walking_93, eX8_walking_94, eX8_walking_95, eX8_walking_98, eX8_walking_99, eX8_walking_100, eX8_walking_103, eX8_walking_106, eX8_walking_107, eX8_walking_108, eX8_walking_111, eX8_walking_112, eX8_walking_113, eX8_walking_116, eX8_walking_119, eX8_walking_120, eX8_walking_121, eX8_walking_124, eX8_walking_125, eX8_walking_127, if_pos, if_neg, if_true, if_false, Option.bind_some, Option.toList_some, Option.toList_none, List.cons_append, List.nil_append, e1, e2, e3]
          · rw [if_neg c4]
            simp (disch := omega) only [eX8_walking_0, eX8_walking_1, eX8_walking_4, eX8_walking_7, eX8_walking_8, eX8_walking_11, eX8_walking_12, eX8_walking_13, eX8_walking_16, eX8_walking_19, eX8_walking_20, eX8_walking_23, eX8_walking_24, eX8_walking_25, eX8_walking_60, eX8_walking_61, eX8_walking_64, eX8_walking_67, eX8_walking_68, eX8_walking_69, eX8_walking_72, eX8_walking_73, eX8_walking_74, eX8_walking_77, eX8_walking_80, eX8_walking_81, eX8_walking_82, eX8_walking_85, eX8_walking_86, eX8_walking_87, eX8_walking_90, eX8_walking_93, eX8_walking_94, eX8_walking_95, eX8_walking_98, eX8_walking_99, eX8_walking_100, eX8_walking_103, eX8_walking_106, eX8_walking_107, eX8_walking_108, eX8_walking_111, eX8_walking_112, eX8_walking_113, eX8_walking_116, eX8_walking_119, eX8_walking_120, eX8_walking_121, eX8_walking_124, eX8_walking_125, eX8_walking_127, if_pos, if_neg, if_true, if_false, Option.bind_some, Option.toList_some, Option.toList_none, List.cons_append, List.nil_append, e1, e2]
def lostF (A : Nat → Int) (a b : Int) : Int := if (0 ≤ a ∧ a ≤ 299) ∧ a ≤ b ∧ b ≤ 299 then sumk (rwB (RA A) (if a < A 0 then A 0 else a) (if A 1 < b then A 1 else b)) 300 else -2
theorem s_lostBy {a b : Int} (h : XIs S A m H K V P n) (ha : rng a) (hb : rng b) : fX8_lostBy [vR 0, vI a, vI b] S = some (some (vI (lostF A a b)), S) := by
  obtain ⟨h1, -⟩ := h
  obtain ⟨i1, i2, i3, i4, i5, i6, i7, i8⟩ := h1
  obtain ⟨k0, ht, hv, hd, hc⟩ := scn0
  obtain ⟨v0, -⟩ := id hv
  obtain ⟨t0, -⟩ := id ht
  obtain ⟨b0, b1, -⟩ := id i2
  have hlo : rng (A 0) := ⟨by omega, by omega⟩
  have hhi : rng (A 1) := ⟨by omega, by omega⟩
  have e0 := s_isRange (S := S) ha hb
  have e1 := s_valueOf (S := S) (j := 0) ht (by omega)
  have e2 := s_valueOf (S := S) (j := 1) ht (by omega)
  rw [tn0, i1 0 (by omega)] at e1
  rw [tn1, i1 1 (by omega)] at e2
  rw [uX8_lostBy]
  unfold lostF
  by_cases c : (0 ≤ a ∧ a ≤ 299) ∧ a ≤ b ∧ b ≤ 299
  · rw [if_pos c] at e0 ⊢
    have e3 := s_max (S := S) (a := a) (b := A 0) ha hlo
    have e4 := s_min (S := S) (a := b) (b := A 1) hb hhi
    have hx : rng (if a < A 0 then A 0 else a) := by split <;> exact ⟨by omega, by omega⟩
    have hy : rng (if A 1 < b then A 1 else b) := by split <;> exact ⟨by omega, by omega⟩
    have e5 := s_rowsBetween (S := S) hv i3 hx hy
    generalize (if a < A 0 then A 0 else a) = x at *
    generalize (if A 1 < b then A 1 else b) = y at *
    simp (disch := omega) only [eX8_lostBy_0, eX8_lostBy_1, eX8_lostBy_2, eX8_lostBy_5, eX8_lostBy_8, eX8_lostBy_10, eX8_lostBy_11, eX8_lostBy_12, eX8_lostBy_13, eX8_lostBy_16, eX8_lostBy_19, eX8_lostBy_20, eX8_lostBy_23, eX8_lostBy_26, eX8_lostBy_27, eX8_lostBy_28, eX8_lostBy_29, eX8_lostBy_32, eX8_lostBy_35, eX8_lostBy_36, eX8_lostBy_39, eX8_lostBy_42, eX8_lostBy_44, eX8_lostBy_45, eX8_lostBy_48, eX8_lostBy_51, eX8_lostBy_52, eX8_lostBy_54, eX8_lostBy_57, if_pos, if_neg, if_true, if_false, Option.bind_some, Option.toList_some, Option.toList_none, List.cons_append, List.nil_append, e0, e1, e3, e2, e4, e5]
  · rw [if_neg c] at e0 ⊢
    simp (disch := omega) only [eX8_lostBy_0, eX8_lostBy_1, eX8_lostBy_2, eX8_lostBy_5, eX8_lostBy_8, eX8_lostBy_10, eX8_lostBy_11, eX8_lostBy_12, eX8_lostBy_13, eX8_lostBy_16, eX8_lostBy_19, eX8_lostBy_20, eX8_lostBy_23, eX8_lostBy_26, eX8_lostBy_27, eX8_lostBy_28, eX8_lostBy_29, eX8_lostBy_32, eX8_lostBy_35, eX8_lostBy_36, eX8_lostBy_39, eX8_lostBy_42, eX8_lostBy_44, eX8_lostBy_45, eX8_lostBy_48, eX8_lostBy_51, eX8_lostBy_52, eX8_lostBy_54, eX8_lostBy_57, if_pos, if_neg, if_true, if_false, Option.bind_some, Option.toList_some, Option.toList_none, List.cons_append, List.nil_append, e0]
def trB (A : Nat → Int) (s o : Int) : Nat → Int := up (up A 2 s) 3 o
def trF (A : Nat → Int) (s o : Int) : Nat → Int := (mRun (mLook (mBeg (trB A s o) (RA A)) (RA A)) (RA A)).1
set_option maxRecDepth 100000 in
theorem k71 : crs 71 := by
  unfold crs
  decide +kernel
set_option maxRecDepth 100000 in
theorem k79 : stg 79 := by
  unfold stg
  decide +kernel
theorem s_tryOut {s o : Int} (h : XIs S A m H K V P n) (hs : 0 ≤ s ∧ s ≤ 2) (ho : 0 ≤ o ∧ o ≤ 5) : ∃ S', fX8_tryOut [vR 0, vI s, vI o] S = some (none, S') ∧ XIs S' A m H K V P n ∧ CrossIs S' 71 (trF A s o) ∧ (∀ a, 593 ≤ a → S' a = S a) := by
  have hX := h
  obtain ⟨h1, h2, -⟩ := h
  obtain ⟨i1, i2, i3, i4, i5, i6, i7, i8⟩ := h1
  obtain ⟨k0, ht, hv, hd, hc⟩ := scn0
  obtain ⟨v0, -⟩ := id hv
  obtain ⟨t0, -⟩ := id ht
  have k1 := k71
  have k2 := k79
  obtain ⟨k3, -⟩ := id k2
  obtain ⟨⟨k4, -⟩, -⟩ := id k1
  obtain ⟨S1, e1, g1, f1⟩ := s_setCopy (S := S) k2 ht (by omega)
  have e2 := s_change (S := S1) (j := 2) (z := s) k2 (by omega)
  have e3 := s_change (S := updM S1 (79 + 1) (2 : Int).toNat s) (j := 3) (z := o) k2 (by omega)
  have n2 : (2 : Int).toNat = 2 := rfl
  have n3 : (3 : Int).toNat = 3 := rfl
  rw [n2] at e2 e3
  rw [n3] at e3
  obtain ⟨S3, hS3⟩ : ∃ T, T = updM (updM S1 (79 + 1) 2 s) (79 + 1) 3 o := ⟨_, rfl⟩
  have f3 : ∀ a, a ≠ 80 → S3 a = S a := fun a ha => by rw [hS3, updM_ne (by omega), updM_ne (by omega), f1 a (by omega)]
  have hB : StgIs S3 79 (trB A s o) := by
    intro j hj
    rw [hS3, updM_eq]
    unfold trB
    by_cases c3 : j = 3
    · rw [c3, up_eq, up_eq]
    · rw [up_ne c3, up_ne c3, updM_eq]
      by_cases c2 : j = 2
      · rw [c2, up_eq, up_eq]
      · rw [up_ne c2, up_ne c2, g1 j hj]
        exact i1 j hj
  have hBR : StgR (trB A s o) := by
    obtain ⟨y0, y1, y2, y3⟩ := i2
    unfold StgR trB
    rw [up_ne (by omega), up_ne (by omega), up_ne (by omega), up_ne (by omega), up_ne (j := 2) (by omega), up_eq, up_eq]
    exact ⟨y0, y1, hs, ho⟩
  have hb1 : mBeg (trB A s o) (RA A) 1 = trB A s o 1 := rfl
  have hR3 : RiverIs S3 (1 + 3) (RA A) := i3.rows (fun a q1 q2 => f3 a (by omega))
  have hT3 : TNS S3 := h2.keep (f3 602 (by omega)) (f3 604 (by omega))
  obtain ⟨S4, e4, g4, f4⟩ := s_start k1 hv (by omega) k2 (by omega) hBR hB hR3 hT3 (by omega)
  have hk : ∀ k, k < 4 → mLook (mBeg (trB A s o) (RA A)) (RA A) k = trB A s o k := fun k hk => by
    rw [mLook_ne (by omega) (by omega) (by omega) (Or.inr (Or.inr (by rw [hb1]; exact hBR.2.1.2))), mBeg_k (by omega)]
  have hMR : StgR (mLook (mBeg (trB A s o) (RA A)) (RA A)) := by
    unfold StgR
    rw [hk 0 (by omega), hk 1 (by omega), hk 2 (by omega), hk 3 (by omega)]
    exact hBR
  have hMS : StgIs S4 79 (mLook (mBeg (trB A s o) (RA A)) (RA A)) := fun j hj => by
    rw [f4 _ (by omega), hk j hj]
    exact hB j hj
  have hr := RunR_look (R := RA A) (RunR_beg hBR) (by rw [hb1]; exact hBR.2.1) i3.rb
  have hs' := RunS_look (R := RA A) (RunR_beg hBR) (by rw [hb1]; exact hBR.2.1) (by show 0 ≤ (1 : Int) ∧ (1 : Int) ≤ 2; omega) (fun _ => onS_beg hBR)
  obtain ⟨S5, e5, g5, f5⟩ := s_finish k1 hv (by omega) k2 (by omega) (by omega) hMR hMS (hR3.rows (fun a q1 q2 => f4 a (by omega))) (hT3.keep (f4 602 (by omega)) (f4 604 (by omega))) g4 hr hs'
  have fr : ∀ a, (a < 71 ∨ 81 ≤ a) → S5 a = S a := fun a ha => by rw [f5 a (by omega), f4 a (by omega), f3 a (by omega)]
  refine ⟨S5, ?_, hX.rows (fun a _ _ ha => fr a ha) (fr 602 (by omega)) (fr 604 (by omega)), g5, fun a ha => fr a (by omega)⟩
  rw [uX8_tryOut]
  simp (disch := omega) only [eX8_tryOut_0, eX8_tryOut_1, eX8_tryOut_4, eX8_tryOut_5, eX8_tryOut_8, eX8_tryOut_11, eX8_tryOut_14, eX8_tryOut_15, eX8_tryOut_18, eX8_tryOut_19, eX8_tryOut_20, eX8_tryOut_23, eX8_tryOut_24, eX8_tryOut_27, eX8_tryOut_28, eX8_tryOut_29, eX8_tryOut_32, eX8_tryOut_33, eX8_tryOut_36, eX8_tryOut_37, eX8_tryOut_40, eX8_tryOut_43, eX8_tryOut_44, eX8_tryOut_47, eX8_tryOut_50, eX8_tryOut_51, eX8_tryOut_54, eX8_tryOut_55, eX8_tryOut_58, eX8_tryOut_61, eX8_tryOut_62, eX8_tryOut_65, eX8_tryOut_68, eX8_tryOut_69, if_pos, if_neg, if_true, if_false, Option.bind_some, Option.toList_some, Option.toList_none, List.cons_append, List.nil_append, e1, e2, e3]
  rw [← hS3]
  simp (disch := omega) only [eX8_tryOut_0, eX8_tryOut_1, eX8_tryOut_4, eX8_tryOut_5, eX8_tryOut_8, eX8_tryOut_11, eX8_tryOut_14, eX8_tryOut_15, eX8_tryOut_18, eX8_tryOut_19, eX8_tryOut_20, eX8_tryOut_23, eX8_tryOut_24, eX8_tryOut_27, eX8_tryOut_28, eX8_tryOut_29, eX8_tryOut_32, eX8_tryOut_33, eX8_tryOut_36, eX8_tryOut_37, eX8_tryOut_40, eX8_tryOut_43, eX8_tryOut_44, eX8_tryOut_47, eX8_tryOut_50, eX8_tryOut_51, eX8_tryOut_54, eX8_tryOut_55, eX8_tryOut_58, eX8_tryOut_61, eX8_tryOut_62, eX8_tryOut_65, eX8_tryOut_68, eX8_tryOut_69, if_pos, if_neg, if_true, if_false, Option.bind_some, Option.toList_some, Option.toList_none, List.cons_append, List.nil_append, e4, e5]
def rwF (A : Nat → Int) (s o what : Int) : Int := if ((0 ≤ s ∧ s ≤ 2) ∧ 0 ≤ o ∧ o ≤ 5) ∧ 0 ≤ what ∧ what ≤ 1 then (if what = 0 then trF A s o 8 + trF A s o 9 + trF A s o 10 else trF A s o 11 + trF A s o 12 + trF A s o 13) else -2
theorem s_runWith {s o what : Int} (h : XIs S A m H K V P n) (hs : rng s) (ho : rng o) (hx : rng what) : ∃ S', fX8_runWith [vR 0, vI s, vI o, vI what] S = some (some (vI (rwF A s o what)), S') ∧ XIs S' A m H K V P n ∧ (∀ a, 593 ≤ a → S' a = S a) := by
  have e1 := s_isBetween (S := S) (a := s) (b := 0) (c := 2) hs ⟨by omega, by omega⟩ ⟨by omega, by omega⟩
  have e2 := s_isBetween (S := S) (a := o) (b := 0) (c := 5) ho ⟨by omega, by omega⟩ ⟨by omega, by omega⟩
  have e3 := s_isBetween (S := S) (a := what) (b := 0) (c := 1) hx ⟨by omega, by omega⟩ ⟨by omega, by omega⟩
  have k1 := k71
  obtain ⟨⟨k4, -⟩, -⟩ := id k1
  obtain ⟨x1, x2⟩ := id hx
  unfold rwF
  rw [uX8_runWith]
  by_cases q1 : 0 ≤ s ∧ s ≤ 2
  · rw [if_pos q1] at e1
    by_cases q2 : 0 ≤ o ∧ o ≤ 5
    · rw [if_pos q2] at e2
      by_cases q3 : 0 ≤ what ∧ what ≤ 1
      · rw [if_pos q3] at e3
        rw [if_pos ⟨⟨q1, q2⟩, q3⟩]
        obtain ⟨S1, e4, g4, g5, g6⟩ := s_tryOut h q1 q2
        refine ⟨S1, ?_, g4, g6⟩
        by_cases c : what = 0
        · have e5 := s_crLeaps k1 g5
          rw [if_pos c]
          simp (disch := omega) only [eX8_runWith_0, eX8_runWith_1, eX8_runWith_2, eX8_runWith_3, eX8_runWith_6, eX8_runWith_9, eX8_runWith_10, eX8_runWith_11, eX8_runWith_12, eX8_runWith_15, eX8_runWith_18, eX8_runWith_19, eX8_runWith_20, eX8_runWith_21, eX8_runWith_24, eX8_runWith_27, eX8_runWith_29, eX8_runWith_30, eX8_runWith_31, eX8_runWith_32, eX8_runWith_33, eX8_runWith_36, eX8_runWith_37, eX8_runWith_40, eX8_runWith_41, eX8_runWith_44, eX8_runWith_47, eX8_runWith_50, eX8_runWith_51, eX8_runWith_54, eX8_runWith_57, if_pos, if_neg, if_true, if_false, Option.bind_some, Option.toList_some, Option.toList_none, List.cons_append, List.nil_append, e1, e2, e3, e4, e5]
        · have e5 := s_crLooks k1 g5
          rw [if_neg c]
          simp (disch := omega) only [eX8_runWith_0, eX8_runWith_1, eX8_runWith_2, eX8_runWith_3, eX8_runWith_6, eX8_runWith_9, eX8_runWith_10, eX8_runWith_11, eX8_runWith_12, eX8_runWith_15, eX8_runWith_18, eX8_runWith_19, eX8_runWith_20, eX8_runWith_21, eX8_runWith_24, eX8_runWith_27, eX8_runWith_29, eX8_runWith_30, eX8_runWith_31, eX8_runWith_32, eX8_runWith_33, eX8_runWith_36, eX8_runWith_37, eX8_runWith_40, eX8_runWith_41, eX8_runWith_44, eX8_runWith_47, eX8_runWith_50, eX8_runWith_51, eX8_runWith_54, eX8_runWith_57, if_pos, if_neg, if_true, if_false, Option.bind_some, Option.toList_some, Option.toList_none, List.cons_append, List.nil_append, e1, e2, e3, e4, e5]
      · rw [if_neg q3] at e3
        rw [if_neg (fun y => q3 y.2)]
        refine ⟨S, ?_, h, fun _ _ => rfl⟩
        simp (disch := omega) only [eX8_runWith_0, eX8_runWith_1, eX8_runWith_2, eX8_runWith_3, eX8_runWith_6, eX8_runWith_9, eX8_runWith_10, eX8_runWith_11, eX8_runWith_12, eX8_runWith_15, eX8_runWith_18, eX8_runWith_19, eX8_runWith_20, eX8_runWith_21, eX8_runWith_24, eX8_runWith_27, eX8_runWith_29, eX8_runWith_30, eX8_runWith_31, eX8_runWith_32, eX8_runWith_33, eX8_runWith_36, eX8_runWith_37, eX8_runWith_40, eX8_runWith_41, eX8_runWith_44, eX8_runWith_47, eX8_runWith_50, eX8_runWith_51, eX8_runWith_54, eX8_runWith_57, if_pos, if_neg, if_true, if_false, Option.bind_some, Option.toList_some, Option.toList_none, List.cons_append, List.nil_append, e1, e2, e3]
    · rw [if_neg q2] at e2
      rw [if_neg (fun y => q2 y.1.2)]
      refine ⟨S, ?_, h, fun _ _ => rfl⟩
      simp (disch := omega) only [eX8_runWith_0, eX8_runWith_1, eX8_runWith_2, eX8_runWith_3, eX8_runWith_6, eX8_runWith_9, eX8_runWith_10, eX8_runWith_11, eX8_runWith_12, eX8_runWith_15, eX8_runWith_18, eX8_runWith_19, eX8_runWith_20, eX8_runWith_21, eX8_runWith_24, eX8_runWith_27, eX8_runWith_29, eX8_runWith_30, eX8_runWith_31, eX8_runWith_32, eX8_runWith_33, eX8_runWith_36, eX8_runWith_37, eX8_runWith_40, eX8_runWith_41, eX8_runWith_44, eX8_runWith_47, eX8_runWith_50, eX8_runWith_51, eX8_runWith_54, eX8_runWith_57, if_pos, if_neg, if_true, if_false, Option.bind_some, Option.toList_some, Option.toList_none, List.cons_append, List.nil_append, e1, e2]
  · rw [if_neg q1] at e1
    rw [if_neg (fun y => q1 y.1.1)]
    refine ⟨S, ?_, h, fun _ _ => rfl⟩
    simp (disch := omega) only [eX8_runWith_0, eX8_runWith_1, eX8_runWith_2, eX8_runWith_3, eX8_runWith_6, eX8_runWith_9, eX8_runWith_10, eX8_runWith_11, eX8_runWith_12, eX8_runWith_15, eX8_runWith_18, eX8_runWith_19, eX8_runWith_20, eX8_runWith_21, eX8_runWith_24, eX8_runWith_27, eX8_runWith_29, eX8_runWith_30, eX8_runWith_31, eX8_runWith_32, eX8_runWith_33, eX8_runWith_36, eX8_runWith_37, eX8_runWith_40, eX8_runWith_41, eX8_runWith_44, eX8_runWith_47, eX8_runWith_50, eX8_runWith_51, eX8_runWith_54, eX8_runWith_57, if_pos, if_neg, if_true, if_false, Option.bind_some, Option.toList_some, Option.toList_none, List.cons_append, List.nil_append, e1]
theorem s_wipe (h : XIs S A m H K V P n) : ∃ S', fX8_wipe [vR 0] S = some (some (vI (n : Int)), S') ∧ XIs S' A m H K V P 0 ∧ (∀ a, 593 ≤ a → S' a = S a) := by
  have k0 := k69
  have hn := h.2.2.2.2.2.1
  have e1 : fX2_length [vR 69] S = some (some (vI (S 69 1)), S) := by
    rw [uX2_length]
    simp (disch := omega) only [eX2_length_0, eX2_length_1, eX2_length_4, if_pos, if_neg, if_true, if_false, Option.bind_some, Option.toList_some, Option.toList_none, List.cons_append, List.nil_append]
  rw [hn] at e1
  have e2 : fX2_clear [vR 69] S = some (none, updM (updM S 69 1 0) 69 2 0) := by
    rw [uX2_clear]
    simp (disch := omega) only [eX2_clear_0, eX2_clear_1, eX2_clear_2, eX2_clear_5, eX2_clear_6, eX2_clear_7, eX2_clear_10, if_pos, if_neg, if_true, if_false, Option.bind_some, Option.toList_some, Option.toList_none, List.cons_append, List.nil_append]
  have fr : ∀ a, a ≠ 69 → updM (updM S 69 1 0) 69 2 0 a = S a := fun a ha => by rw [updM_ne ha, updM_ne ha]
  obtain ⟨h1, h2, h3, h4, h5, h6⟩ := h
  refine ⟨updM (updM S 69 1 0) 69 2 0, ?_, ⟨h1.rows (fun a _ _ => fr a (by omega)), h2.keep (fr _ (by omega)) (fr _ (by omega)), h3.rows (fun a _ _ _ _ => fr a (by omega)), h4.rows (fr _ (by omega)) (fun a _ _ => fr a (by omega)), ⟨by rw [fr 16 (by omega)]; exact h5.1, fun i hi => by rw [fr _ (by omega)]; exact h5.2 i hi⟩, ⟨by rw [updM_eq, up_ne (by omega), updM_eq, up_eq]; rfl, by omega, fun k hk => by omega, fun k hk => by omega⟩⟩, fun a ha => fr a (by omega)⟩
  rw [uX8_wipe]
  simp (disch := omega) only [eX8_wipe_0, eX8_wipe_1, eX8_wipe_4, eX8_wipe_7, eX8_wipe_8, eX8_wipe_9, eX8_wipe_12, eX8_wipe_15, eX8_wipe_16, if_pos, if_neg, if_true, if_false, Option.bind_some, Option.toList_some, Option.toList_none, List.cons_append, List.nil_append, e1, e2]
theorem XIs.pad (h : XIs S A m H K V P n) (h1 : S' 69 1 = S 69 1) (he : ∀ a, a ≠ 69 → S' a = S a) : XIs S' A m H K V P n := by
  obtain ⟨i1, i2, i3, i4, i5, i6⟩ := h
  exact ⟨i1.rows (fun a _ _ => he a (by omega)), i2.keep (he _ (by omega)) (he _ (by omega)), i3.rows (fun a _ _ _ _ => he a (by omega)), i4.rows (he _ (by omega)) (fun a _ _ => he a (by omega)), ⟨by rw [he 16 (by omega)]; exact i5.1, fun i hi => by rw [he _ (by omega)]; exact i5.2 i hi⟩, i6.row h1 (he 70 (by omega))⟩
def fltF (P : Nat → Int) (n : Nat) : Int := if (Tx P n 80 0).1 = true then -6 else ((Tx P n 80 0).2.1 : Int)
theorem s_fault (h : XIs S A m H K V P n) : ∃ S', fX8_fault [vR 0] S = some (some (vI (fltF P n)), S') ∧ XIs S' A m H K V P n ∧ (∀ a, 593 ≤ a → S' a = S a) := by
  have k0 := k69
  obtain ⟨S1, e1, g1, g2⟩ := s_firstFault h.2.2.2.2.2
  refine ⟨S1, ?_, h.pad g1 g2, fun a ha => g2 a (by omega)⟩
  rw [uX8_fault]
  simp (disch := omega) only [eX8_fault_0, eX8_fault_1, eX8_fault_4, eX8_fault_7, if_pos, if_neg, if_true, if_false, Option.bind_some, Option.toList_some, Option.toList_none, List.cons_append, List.nil_append, e1]
  rfl
end ROOT4
