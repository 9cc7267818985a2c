/-! the class's reads -/
section ROOT3
variable {S S' : MM} {A A' : Nat → Int} {m : Nat} {H : Nat → Nat → Int} {K : Nat → Int} {V : Nat → Nat → Int} {P : Nat → Int} {n : Nat}
def ofW (A : Nat → Int) (w what : Int) : Int := if ¬ (0 ≤ w ∧ w ≤ 2) then -1 else if ¬ (0 ≤ what ∧ what ≤ 6) then -2 else if what = 0 then (cnt (RA A w.toNat) 300 : Int) else if what = 1 ∧ A 4 ≠ 0 then (cnt (RA A w.toNat) (A (20 + w.toNat)).toNat : Int) else figW A w.toNat what
theorem s_ofWalker {w what : Int} (h : XIs S A m H K V P n) (hw : rng w) (hx : rng what) : fX8_ofWalker [vR 0, vI w, vI what] S = some (some (vI (ofW A w what)), S) := by
  obtain ⟨h1, h2, h3, h4, h5, h6⟩ := h
  obtain ⟨i1, i2, i3, i4, i5, i6, i7, i8⟩ := h1
  obtain ⟨k0, ht, hv, hd, hc⟩ := scn0
  obtain ⟨v0, -⟩ := id hv
  obtain ⟨⟨c0, -⟩, -⟩ := id hc
  have e1 := s_isWalker (S := S) hw
  have e2 := s_isBetween (S := S) (a := what) (b := 0) (c := 6) hx ⟨by omega, by omega⟩ ⟨by omega, by omega⟩
  obtain ⟨x1, x2⟩ := id hx
  unfold ofW
  rw [uX8_ofWalker]
  by_cases q : 0 ≤ w ∧ w ≤ 2
  · rw [if_pos q] at e1
    rw [if_neg (fun y => y q)]
    by_cases z : 0 ≤ what ∧ what ≤ 6
    · rw [if_pos z] at e2
      rw [if_neg (fun y => y z)]
      have e3 := s_pathOf (S := S) hv.1 q
      have hp := riv_pw hv q
      have hP := i3.pw q
      obtain ⟨p0, -⟩ := id hp
      by_cases c : what = 0
      · rw [if_pos c]
        have e4 := s_size (S := S) hp
        rw [hP.1] at e4
        simp (disch := omega) only [eX8_ofWalker_0, eX8_ofWalker_1, eX8_ofWalker_4, eX8_ofWalker_7, eX8_ofWalker_8, eX8_ofWalker_9, eX8_ofWalker_10, eX8_ofWalker_11, eX8_ofWalker_13, eX8_ofWalker_16, eX8_ofWalker_19, eX8_ofWalker_21, eX8_ofWalker_22, eX8_ofWalker_23, eX8_ofWalker_26, eX8_ofWalker_27, eX8_ofWalker_30, eX8_ofWalker_33, eX8_ofWalker_34, eX8_ofWalker_37, eX8_ofWalker_40, eX8_ofWalker_41, eX8_ofWalker_42, eX8_ofWalker_43, eX8_ofWalker_46, eX8_ofWalker_47, eX8_ofWalker_50, eX8_ofWalker_53, eX8_ofWalker_56, eX8_ofWalker_59, eX8_ofWalker_60, eX8_ofWalker_63, eX8_ofWalker_66, eX8_ofWalker_67, eX8_ofWalker_70, eX8_ofWalker_71, eX8_ofWalker_74, eX8_ofWalker_77, eX8_ofWalker_78, eX8_ofWalker_81, eX8_ofWalker_84, eX8_ofWalker_85, eX8_ofWalker_86, eX8_ofWalker_89, eX8_ofWalker_92, eX8_ofWalker_93, eX8_ofWalker_94, eX8_ofWalker_97, if_pos, if_neg, if_true, if_false, Option.bind_some, Option.toList_some, Option.toList_none, List.cons_append, List.nil_append, e1, e2, e3, e4]
      · rw [if_neg c]
        have e5 := s_isBegun2 hc i6
        have e6 := s_figureOfWalker hc i6 i7 q z
        by_cases d : what = 1
        · by_cases b : A 4 = 0
          · rw [if_pos b] at e5
            rw [if_neg (fun y => y.2 b)]
            simp (disch := omega) only [eX8_ofWalker_0, eX8_ofWalker_1, eX8_ofWalker_4, eX8_ofWalker_7, eX8_ofWalker_8, eX8_ofWalker_9, eX8_ofWalker_10, eX8_ofWalker_11, eX8_ofWalker_13, eX8_ofWalker_16, eX8_ofWalker_19, eX8_ofWalker_21, eX8_ofWalker_22, eX8_ofWalker_23, eX8_ofWalker_26, eX8_ofWalker_27, eX8_ofWalker_30, eX8_ofWalker_33, eX8_ofWalker_34, eX8_ofWalker_37, eX8_ofWalker_40, eX8_ofWalker_41, eX8_ofWalker_42, eX8_ofWalker_43, eX8_ofWalker_46, eX8_ofWalker_47, eX8_ofWalker_50, eX8_ofWalker_53, eX8_ofWalker_56, eX8_ofWalker_59, eX8_ofWalker_60, eX8_ofWalker_63, eX8_ofWalker_66, eX8_ofWalker_67, eX8_ofWalker_70, eX8_ofWalker_71, eX8_ofWalker_74, eX8_ofWalker_77, eX8_ofWalker_78, eX8_ofWalker_81, eX8_ofWalker_84, eX8_ofWalker_85, eX8_ofWalker_86, eX8_ofWalker_89, eX8_ofWalker_92, eX8_ofWalker_93, eX8_ofWalker_94, eX8_ofWalker_97, if_pos, if_neg, if_true, if_false, Option.bind_some, Option.toList_some, Option.toList_none, List.cons_append, List.nil_append, e1, e2, e5, e6]
          · rw [if_neg b] at e5
            rw [if_pos ⟨d, b⟩]
            have e7 := s_keyUnder hc i6 q
            have hb := (i7.2.2.2.2 w.toNat (by omega)).1
            have e8 := s_placeFrom (S := S) hp hP hb
            simp (disch := omega) only [eX8_ofWalker_0, eX8_ofWalker_1, eX8_ofWalker_4, eX8_ofWalker_7, eX8_ofWalker_8, eX8_ofWalker_9, eX8_ofWalker_10, eX8_ofWalker_11, eX8_ofWalker_13, eX8_ofWalker_16, eX8_ofWalker_19, eX8_ofWalker_21, eX8_ofWalker_22, eX8_ofWalker_23, eX8_ofWalker_26, eX8_ofWalker_27, eX8_ofWalker_30, eX8_ofWalker_33, eX8_ofWalker_34, eX8_ofWalker_37, eX8_ofWalker_40, eX8_ofWalker_41, eX8_ofWalker_42, eX8_ofWalker_43, eX8_ofWalker_46, eX8_ofWalker_47, eX8_ofWalker_50, eX8_ofWalker_53, eX8_ofWalker_56, eX8_ofWalker_59, eX8_ofWalker_60, eX8_ofWalker_63, eX8_ofWalker_66, eX8_ofWalker_67, eX8_ofWalker_70, eX8_ofWalker_71, eX8_ofWalker_74, eX8_ofWalker_77, eX8_ofWalker_78, eX8_ofWalker_81, eX8_ofWalker_84, eX8_ofWalker_85, eX8_ofWalker_86, eX8_ofWalker_89, eX8_ofWalker_92, eX8_ofWalker_93, eX8_ofWalker_94, eX8_ofWalker_97, if_pos, if_neg, if_true, if_false, Option.bind_some, Option.toList_some, Option.toList_none, List.cons_append, List.nil_append, e1, e2, e5, e3, e7, e8]
        · rw [if_neg (fun y => d y.1)]
          simp (disch := omega) only [eX8_ofWalker_0, eX8_ofWalker_1, eX8_ofWalker_4, eX8_ofWalker_7, eX8_ofWalker_8, eX8_ofWalker_9, eX8_ofWalker_10, eX8_ofWalker_11, eX8_ofWalker_13, eX8_ofWalker_16, eX8_ofWalker_19, eX8_ofWalker_21, eX8_ofWalker_22, eX8_ofWalker_23, eX8_ofWalker_26, eX8_ofWalker_27, eX8_ofWalker_30, eX8_ofWalker_33, eX8_ofWalker_34, eX8_ofWalker_37, eX8_ofWalker_40, eX8_ofWalker_41, eX8_ofWalker_42, eX8_ofWalker_43, eX8_ofWalker_46, eX8_ofWalker_47, eX8_ofWalker_50, eX8_ofWalker_53, eX8_ofWalker_56, eX8_ofWalker_59, eX8_ofWalker_60, eX8_ofWalker_63, eX8_ofWalker_66, eX8_ofWalker_67, eX8_ofWalker_70, eX8_ofWalker_71, eX8_ofWalker_74, eX8_ofWalker_77, eX8_ofWalker_78, eX8_ofWalker_81, eX8_ofWalker_84, eX8_ofWalker_85, eX8_ofWalker_86, eX8_ofWalker_89, eX8_ofWalker_92, eX8_ofWalker_93, eX8_ofWalker_94, eX8_ofWalker_97, if_pos, if_neg, if_true, if_false, Option.bind_some, Option.toList_some, Option.toList_none, List.cons_append, List.nil_append, e1, e2, e6]
    · rw [if_neg z] at e2
      rw [if_pos z]
      simp (disch := omega) only [eX8_ofWalker_0, eX8_ofWalker_1, eX8_ofWalker_4, eX8_ofWalker_7, eX8_ofWalker_8, eX8_ofWalker_9, eX8_ofWalker_10, eX8_ofWalker_11, eX8_ofWalker_13, eX8_ofWalker_16, eX8_ofWalker_19, eX8_ofWalker_21, eX8_ofWalker_22, eX8_ofWalker_23, eX8_ofWalker_26, eX8_ofWalker_27, eX8_ofWalker_30, eX8_ofWalker_33, eX8_ofWalker_34, eX8_ofWalker_37, eX8_ofWalker_40, eX8_ofWalker_41, eX8_ofWalker_42, eX8_ofWalker_43, eX8_ofWalker_46, eX8_ofWalker_47, eX8_ofWalker_50, eX8_ofWalker_53, eX8_ofWalker_56, eX8_ofWalker_59, eX8_ofWalker_60, eX8_ofWalker_63, eX8_ofWalker_66, eX8_ofWalker_67, eX8_ofWalker_70, eX8_ofWalker_71, eX8_ofWalker_74, eX8_ofWalker_77, eX8_ofWalker_78, eX8_ofWalker_81, eX8_ofWalker_84, eX8_ofWalker_85, eX8_ofWalker_86, eX8_ofWalker_89, eX8_ofWalker_92, eX8_ofWalker_93, eX8_ofWalker_94, eX8_ofWalker_97, if_pos, if_neg, if_true, if_false, Option.bind_some, Option.toList_some, Option.toList_none, List.cons_append, List.nil_append, e1, e2]
  · rw [if_neg q] at e1
    rw [if_pos q]
    simp (disch := omega) only [eX8_ofWalker_0, eX8_ofWalker_1, eX8_ofWalker_4, eX8_ofWalker_7, eX8_ofWalker_8, eX8_ofWalker_9, eX8_ofWalker_10, eX8_ofWalker_11, eX8_ofWalker_13, eX8_ofWalker_16, eX8_ofWalker_19, eX8_ofWalker_21, eX8_ofWalker_22, eX8_ofWalker_23, eX8_ofWalker_26, eX8_ofWalker_27, eX8_ofWalker_30, eX8_ofWalker_33, eX8_ofWalker_34, eX8_ofWalker_37, eX8_ofWalker_40, eX8_ofWalker_41, eX8_ofWalker_42, eX8_ofWalker_43, eX8_ofWalker_46, eX8_ofWalker_47, eX8_ofWalker_50, eX8_ofWalker_53, eX8_ofWalker_56, eX8_ofWalker_59, eX8_ofWalker_60, eX8_ofWalker_63, eX8_ofWalker_66, eX8_ofWalker_67, eX8_ofWalker_70, eX8_ofWalker_71, eX8_ofWalker_74, eX8_ofWalker_77, eX8_ofWalker_78, eX8_ofWalker_81, eX8_ofWalker_84, eX8_ofWalker_85, eX8_ofWalker_86, eX8_ofWalker_89, eX8_ofWalker_92, eX8_ofWalker_93, eX8_ofWalker_94, eX8_ofWalker_97, if_pos, if_neg, if_true, if_false, Option.bind_some, Option.toList_some, Option.toList_none, List.cons_append, List.nil_append, e1]
theorem s_ofStone {w j what : Int} (h : XIs S A m H K V P n) (hw : 0 ≤ w ∧ w ≤ 2) (hj : 0 ≤ j ∧ j < cnt (RA A w.toNat) 300) (hx : 0 ≤ what ∧ what ≤ 1) : ∃ k : Nat, k < 300 ∧ 0 < RA A w.toNat k ∧ (cnt (RA A w.toNat) k : Int) = j ∧ fX8_ofStone [vR 0, vI w, vI j, vI what] S = some (some (vI (if what = 0 then (k : Int) else RA A w.toNat k)), S) := by
  obtain ⟨h1, h2, h3, h4, h5, h6⟩ := h
  obtain ⟨i1, i2, i3, i4, i5, i6, i7, i8⟩ := h1
  obtain ⟨k0, ht, hv, hd, hc⟩ := scn0
  obtain ⟨v0, -⟩ := id hv
  have e1 := s_isWalker (S := S) (w := w) ⟨by omega, by omega⟩
  rw [if_pos hw] at e1
  have e3 := s_pathOf (S := S) hv.1 hw
  have hp := riv_pw hv hw
  have hP := i3.pw hw
  obtain ⟨p0, -⟩ := id hp
  have e4 := s_size (S := S) hp
  rw [hP.1] at e4
  have hle := hP.2.1
  have e2 := s_isBetween (S := S) (a := j) (b := 0) (c := (cnt (RA A w.toNat) 300 : Int) - 1) ⟨by omega, by omega⟩ ⟨by omega, by omega⟩ ⟨by omega, by omega⟩
  rw [if_pos (by omega)] at e2
  have e5 := s_isBetween (S := S) (a := what) (b := 0) (c := 1) ⟨by omega, by omega⟩ ⟨by omega, by omega⟩ ⟨by omega, by omega⟩
  rw [if_pos hx] at e5
  obtain ⟨k, g1, g2, g3, g4⟩ := hP.2.2.1.key (j := j.toNat) (by omega)
  have g5 := hP.2.2.2.1 k g1 g2
  rw [g3] at g5
  have e6 := s_keyAt (S := S) (j := j) hp hP ⟨by omega, by omega⟩
  have e7 := s_repeatsAt (S := S) (j := j) hp hP ⟨by omega, by omega⟩
  rw [if_pos hj, g4] at e6
  rw [if_pos hj, g5] at e7
  refine ⟨k, g1, g2, by omega, ?_⟩
  rw [uX8_ofStone]
  by_cases c : what = 0
  · simp (disch := omega) only [eX8_ofStone_0, eX8_ofStone_1, eX8_ofStone_4, eX8_ofStone_7, eX8_ofStone_8, eX8_ofStone_9, eX8_ofStone_10, eX8_ofStone_13, eX8_ofStone_16, eX8_ofStone_17, eX8_ofStone_20, eX8_ofStone_23, eX8_ofStone_24, eX8_ofStone_25, eX8_ofStone_28, eX8_ofStone_31, eX8_ofStone_32, eX8_ofStone_33, eX8_ofStone_34, eX8_ofStone_35, eX8_ofStone_36, eX8_ofStone_39, eX8_ofStone_42, eX8_ofStone_44, eX8_ofStone_45, eX8_ofStone_46, eX8_ofStone_49, eX8_ofStone_52, eX8_ofStone_53, eX8_ofStone_56, eX8_ofStone_58, eX8_ofStone_59, eX8_ofStone_62, eX8_ofStone_64, eX8_ofStone_65, eX8_ofStone_68, eX8_ofStone_71, eX8_ofStone_73, eX8_ofStone_74, eX8_ofStone_77, if_pos, if_neg, if_true, if_false, Option.bind_some, Option.toList_some, Option.toList_none, List.cons_append, List.nil_append, e1, e3, e4, e2, e5, e6]
  · simp (disch := omega) only [eX8_ofStone_0, eX8_ofStone_1, eX8_ofStone_4, eX8_ofStone_7, eX8_ofStone_8, eX8_ofStone_9, eX8_ofStone_10, eX8_ofStone_13, eX8_ofStone_16, eX8_ofStone_17, eX8_ofStone_20, eX8_ofStone_23, eX8_ofStone_24, eX8_ofStone_25, eX8_ofStone_28, eX8_ofStone_31, eX8_ofStone_32, eX8_ofStone_33, eX8_ofStone_34, eX8_ofStone_35, eX8_ofStone_36, eX8_ofStone_39, eX8_ofStone_42, eX8_ofStone_44, eX8_ofStone_45, eX8_ofStone_46, eX8_ofStone_49, eX8_ofStone_52, eX8_ofStone_53, eX8_ofStone_56, eX8_ofStone_58, eX8_ofStone_59, eX8_ofStone_62, eX8_ofStone_64, eX8_ofStone_65, eX8_ofStone_68, eX8_ofStone_71, eX8_ofStone_73, eX8_ofStone_74, eX8_ofStone_77, if_pos, if_neg, if_true, if_false, Option.bind_some, Option.toList_some, Option.toList_none, List.cons_append, List.nil_append, e1, e3, e4, e2, e5, e7]
theorem s_ofStoneX {w j what : Int} (h : XIs S A m H K V P n) (hw : rng w) (hj : rng j) (hx : rng what) (hn : ¬ ((0 ≤ w ∧ w ≤ 2) ∧ 0 ≤ j ∧ j < cnt (RA A w.toNat) 300) ∨ ¬ (0 ≤ what ∧ what ≤ 1)) : fX8_ofStone [vR 0, vI w, vI j, vI what] S = some (some (vI (if ¬ ((0 ≤ w ∧ w ≤ 2) ∧ 0 ≤ j ∧ j < cnt (RA A w.toNat) 300) then -1 else -2)), S) := by
  obtain ⟨h1, h2, h3, h4, h5, h6⟩ := h
  obtain ⟨i1, i2, i3, i4, i5, i6, i7, i8⟩ := h1
  obtain ⟨k0, ht, hv, hd, hc⟩ := scn0
  obtain ⟨v0, -⟩ := id hv
  have e1 := s_isWalker (S := S) hw
  rw [uX8_ofStone]
  by_cases q : 0 ≤ w ∧ w ≤ 2
  · rw [if_pos q] at e1
    have e3 := s_pathOf (S := S) hv.1 q
    have hp := riv_pw hv q
    have hP := i3.pw q
    obtain ⟨p0, -⟩ := id hp
    have e4 := s_size (S := S) hp
    rw [hP.1] at e4
    have hle := hP.2.1
    have e2 := s_isBetween (S := S) (a := j) (b := 0) (c := (cnt (RA A w.toNat) 300 : Int) - 1) hj ⟨by omega, by omega⟩ ⟨by omega, by omega⟩
    by_cases z : 0 ≤ j ∧ j < cnt (RA A w.toNat) 300
    · rw [if_pos (by omega)] at e2
      have hx2 : ¬ (0 ≤ what ∧ what ≤ 1) := by
        rcases hn with y | y
        · exact absurd ⟨q, z⟩ y
        · exact y
      have e5 := s_isBetween (S := S) (a := what) (b := 0) (c := 1) hx ⟨by omega, by omega⟩ ⟨by omega, by omega⟩
      rw [if_neg hx2] at e5
      rw [if_neg (fun y => y ⟨q, z⟩)]
      simp (disch := omega) only [eX8_ofStone_0, eX8_ofStone_1, eX8_ofStone_4, eX8_ofStone_7, eX8_ofStone_8, eX8_ofStone_9, eX8_ofStone_10, eX8_ofStone_13, eX8_ofStone_16, eX8_ofStone_17, eX8_ofStone_20, eX8_ofStone_23, eX8_ofStone_24, eX8_ofStone_25, eX8_ofStone_28, eX8_ofStone_31, eX8_ofStone_32, eX8_ofStone_33, eX8_ofStone_34, eX8_ofStone_35, eX8_ofStone_36, eX8_ofStone_39, eX8_ofStone_42, eX8_ofStone_44, eX8_ofStone_45, eX8_ofStone_46, eX8_ofStone_49, eX8_ofStone_52, eX8_ofStone_53, eX8_ofStone_56, eX8_ofStone_58, eX8_ofStone_59, eX8_ofStone_62, eX8_ofStone_64, eX8_ofStone_65, eX8_ofStone_68, eX8_ofStone_71, eX8_ofStone_73, eX8_ofStone_74, eX8_ofStone_77, if_pos, if_neg, if_true, if_false, Option.bind_some, Option.toList_some, Option.toList_none, List.cons_append, List.nil_append, e1, e3, e4, e2, e5]
    · rw [if_neg (by omega)] at e2
      rw [if_pos (fun y => z y.2)]
      simp (disch := omega) only [eX8_ofStone_0, eX8_ofStone_1, eX8_ofStone_4, eX8_ofStone_7, eX8_ofStone_8, eX8_ofStone_9, eX8_ofStone_10, eX8_ofStone_13, eX8_ofStone_16, eX8_ofStone_17, eX8_ofStone_20, eX8_ofStone_23, eX8_ofStone_24, eX8_ofStone_25, eX8_ofStone_28, eX8_ofStone_31, eX8_ofStone_32, eX8_ofStone_33, eX8_ofStone_34, eX8_ofStone_35, eX8_ofStone_36, eX8_ofStone_39, eX8_ofStone_42, eX8_ofStone_44, eX8_ofStone_45, eX8_ofStone_46, eX8_ofStone_49, eX8_ofStone_52, eX8_ofStone_53, eX8_ofStone_56, eX8_ofStone_58, eX8_ofStone_59, eX8_ofStone_62, eX8_ofStone_64, eX8_ofStone_65, eX8_ofStone_68, eX8_ofStone_71, eX8_ofStone_73, eX8_ofStone_74, eX8_ofStone_77, if_pos, if_neg, if_true, if_false, Option.bind_some, Option.toList_some, Option.toList_none, List.cons_append, List.nil_append, e1, e3, e4, e2]
  · rw [if_neg q] at e1
    rw [if_pos (fun y => q y.1)]
    simp (disch := omega) only [eX8_ofStone_0, eX8_ofStone_1, eX8_ofStone_4, eX8_ofStone_7, eX8_ofStone_8, eX8_ofStone_9, eX8_ofStone_10, eX8_ofStone_13, eX8_ofStone_16, eX8_ofStone_17, eX8_ofStone_20, eX8_ofStone_23, eX8_ofStone_24, eX8_ofStone_25, eX8_ofStone_28, eX8_ofStone_31, eX8_ofStone_32, eX8_ofStone_33, eX8_ofStone_34, eX8_ofStone_35, eX8_ofStone_36, eX8_ofStone_39, eX8_ofStone_42, eX8_ofStone_44, eX8_ofStone_45, eX8_ofStone_46, eX8_ofStone_49, eX8_ofStone_52, eX8_ofStone_53, eX8_ofStone_56, eX8_ofStone_58, eX8_ofStone_59, eX8_ofStone_62, eX8_ofStone_64, eX8_ofStone_65, eX8_ofStone_68, eX8_ofStone_71, eX8_ofStone_73, eX8_ofStone_74, eX8_ofStone_77, if_pos, if_neg, if_true, if_false, Option.bind_some, Option.toList_some, Option.toList_none, List.cons_append, List.nil_append, e1]
theorem s_ofRun {what : Int} (h : XIs S A m H K V P n) (hx : rng what) : fX8_ofRun [vR 0, vI what] S = some (some (vI (if 0 ≤ what ∧ what ≤ 7 then figR A what else -2)), S) := by
  obtain ⟨h1, -⟩ := h
  obtain ⟨i1, i2, i3, i4, i5, i6, i7, i8⟩ := h1
  obtain ⟨k0, ht, hv, hd, hc⟩ := scn0
  obtain ⟨⟨c0, -⟩, -⟩ := id hc
  have e1 := s_isBetween (S := S) (a := what) (b := 0) (c := 7) hx ⟨by omega, by omega⟩ ⟨by omega, by omega⟩
  rw [uX8_ofRun]
  by_cases z : 0 ≤ what ∧ what ≤ 7
  · rw [if_pos z] at e1 ⊢
    have e2 := s_figure hc i6 i7 z
    simp (disch := omega) only [eX8_ofRun_0, eX8_ofRun_1, eX8_ofRun_2, eX8_ofRun_4, eX8_ofRun_7, eX8_ofRun_10, eX8_ofRun_11, eX8_ofRun_14, eX8_ofRun_17, eX8_ofRun_18, eX8_ofRun_21, eX8_ofRun_24, eX8_ofRun_26, if_pos, if_neg, if_true, if_false, Option.bind_some, Option.toList_some, Option.toList_none, List.cons_append, List.nil_append, e1, e2]
  · rw [if_neg z] at e1 ⊢
    simp (disch := omega) only [eX8_ofRun_0, eX8_ofRun_1, eX8_ofRun_2, eX8_ofRun_4, eX8_ofRun_7, eX8_ofRun_10, eX8_ofRun_11, eX8_ofRun_14, eX8_ofRun_17, eX8_ofRun_18, eX8_ofRun_21, eX8_ofRun_24, eX8_ofRun_26, if_pos, if_neg, if_true, if_false, Option.bind_some, Option.toList_some, Option.toList_none, List.cons_append, List.nil_append, e1]
theorem s_meeting {j what : Int} (h : XIs S A m H K V P n) (hj : 0 ≤ j ∧ j < cnt (MetA A) 300) (hx : 0 ≤ what ∧ what ≤ 1) : ∃ k : Nat, k < 300 ∧ 0 < MetA A k ∧ (cnt (MetA A) k : Int) = j ∧ fX8_meeting [vR 0, vI j, vI what] S = some (some (vI (if what = 0 then (k : Int) else MetA A k)), S) := by
  obtain ⟨h1, -⟩ := h
  obtain ⟨i1, i2, i3, i4, i5, i6, i7, i8⟩ := h1
  obtain ⟨k0, ht, hv, hd, hc⟩ := scn0
  obtain ⟨⟨c0, -⟩, -⟩ := id hc
  obtain ⟨-, -, -, ⟨m1, m2, m3⟩, -⟩ := id i6
  have hM := cnt_le (MetA A) 300
  have e1 := s_crMeetings hc i6
  have e2 := s_isBetween (S := S) (a := j) (b := 0) (c := (cnt (MetA A) 300 : Int) - 1) ⟨by omega, by omega⟩ ⟨by omega, by omega⟩ ⟨by omega, by omega⟩
  rw [if_pos (by omega)] at e2
  have e5 := s_isBetween (S := S) (a := what) (b := 0) (c := 1) ⟨by omega, by omega⟩ ⟨by omega, by omega⟩ ⟨by omega, by omega⟩
  rw [if_pos hx] at e5
  obtain ⟨k, g1, g2, g3, g4⟩ := m2.key (j := j.toNat) (by omega)
  have g5 := m3 k g1 g2
  rw [g3] at g5
  have e6 := s_keyOfMeeting (j := j) hc i6 ⟨by omega, by omega⟩
  have e7 := s_rowsOfMeeting (j := j) hc i6 ⟨by omega, by omega⟩
  rw [if_pos hj, g4] at e6
  rw [if_pos hj, g5] at e7
  refine ⟨k, g1, g2, by omega, ?_⟩
  rw [uX8_meeting]
  by_cases c : what = 0
  · simp (disch := omega) only [eX8_meeting_0, eX8_meeting_1, eX8_meeting_2, eX8_meeting_3, eX8_meeting_6, eX8_meeting_9, eX8_meeting_12, eX8_meeting_13, eX8_meeting_14, eX8_meeting_17, eX8_meeting_20, eX8_meeting_21, eX8_meeting_22, eX8_meeting_23, eX8_meeting_24, eX8_meeting_25, eX8_meeting_28, eX8_meeting_31, eX8_meeting_33, eX8_meeting_34, eX8_meeting_35, eX8_meeting_38, eX8_meeting_39, eX8_meeting_42, eX8_meeting_45, eX8_meeting_46, eX8_meeting_49, eX8_meeting_52, eX8_meeting_53, eX8_meeting_56, eX8_meeting_59, eX8_meeting_60, eX8_meeting_63, if_pos, if_neg, if_true, if_false, Option.bind_some, Option.toList_some, Option.toList_none, List.cons_append, List.nil_append, e1, e2, e5, e6]
  · simp (disch := omega) only [eX8_meeting_0, eX8_meeting_1, eX8_meeting_2, eX8_meeting_3, eX8_meeting_6, eX8_meeting_9, eX8_meeting_12, eX8_meeting_13, eX8_meeting_14, eX8_meeting_17, eX8_meeting_20, eX8_meeting_21, eX8_meeting_22, eX8_meeting_23, eX8_meeting_24, eX8_meeting_25, eX8_meeting_28, eX8_meeting_31, eX8_meeting_33, eX8_meeting_34, eX8_meeting_35, eX8_meeting_38, eX8_meeting_39, eX8_meeting_42, eX8_meeting_45, eX8_meeting_46, eX8_meeting_49, eX8_meeting_52, eX8_meeting_53, eX8_meeting_56, eX8_meeting_59, eX8_meeting_60, eX8_meeting_63, if_pos, if_neg, if_true, if_false, Option.bind_some, Option.toList_some, Option.toList_none, List.cons_append, List.nil_append, e1, e2, e5, e7]
theorem s_meetingX {j what : Int} (h : XIs S A m H K V P n) (hj : rng j) (hx : rng what) (hn : ¬ (0 ≤ j ∧ j < cnt (MetA A) 300) ∨ ¬ (0 ≤ what ∧ what ≤ 1)) : fX8_meeting [vR 0, vI j, vI what] S = some (some (vI (if ¬ (0 ≤ j ∧ j < cnt (MetA A) 300) then -1 else -2)), S) := by
  obtain ⟨h1, -⟩ := h
  obtain ⟨i1, i2, i3, i4, i5, i6, i7, i8⟩ := h1
  obtain ⟨k0, ht, hv, hd, hc⟩ := scn0
  obtain ⟨⟨c0, -⟩, -⟩ := id hc
  have hM := cnt_le (MetA A) 300
  have e1 := s_crMeetings hc i6
  have e2 := s_isBetween (S := S) (a := j) (b := 0) (c := (cnt (MetA A) 300 : Int) - 1) hj ⟨by omega, by omega⟩ ⟨by omega, by omega⟩
  rw [uX8_meeting]
  by_cases z : 0 ≤ j ∧ j < cnt (MetA A) 300
  · rw [if_pos (by omega)] at e2
    have hx2 : ¬ (0 ≤ what ∧ what ≤ 1) := by
      rcases hn with y | y
      · exact absurd z y
      · exact y
    have e5 := s_isBetween (S := S) (a := what) (b := 0) (c := 1) hx ⟨by omega, by omega⟩ ⟨by omega, by omega⟩
    rw [if_neg hx2] at e5
    rw [if_neg (fun y => y z)]
    simp (disch := omega) only [eX8_meeting_0, eX8_meeting_1, eX8_meeting_2, eX8_meeting_3, eX8_meeting_6, eX8_meeting_9, eX8_meeting_12, eX8_meeting_13, eX8_meeting_14, eX8_meeting_17, eX8_meeting_20, eX8_meeting_21, eX8_meeting_22, eX8_meeting_23, eX8_meeting_24, eX8_meeting_25, eX8_meeting_28, eX8_meeting_31, eX8_meeting_33, eX8_meeting_34, eX8_meeting_35, eX8_meeting_38, eX8_meeting_39, eX8_meeting_42, eX8_meeting_45, eX8_meeting_46, eX8_meeting_49, eX8_meeting_52, eX8_meeting_53, eX8_meeting_56, eX8_meeting_59, eX8_meeting_60, eX8_meeting_63, if_pos, if_neg, if_true, if_false, Option.bind_some, Option.toList_some, Option.toList_none, List.cons_append, List.nil_append, e1, e2, e5]
  · rw [if_neg (by omega)] at e2
    rw [if_pos z]
    simp (disch := omega) only [eX8_meeting_0, eX8_meeting_1, eX8_meeting_2, eX8_meeting_3, eX8_meeting_6, eX8_meeting_9, eX8_meeting_12, eX8_meeting_13, eX8_meeting_14, eX8_meeting_17, eX8_meeting_20, eX8_meeting_21, eX8_meeting_22, eX8_meeting_23, eX8_meeting_24, eX8_meeting_25, eX8_meeting_28, eX8_meeting_31, eX8_meeting_33, eX8_meeting_34, eX8_meeting_35, eX8_meeting_38, eX8_meeting_39, eX8_meeting_42, eX8_meeting_45, eX8_meeting_46, eX8_meeting_49, eX8_meeting_52, eX8_meeting_53, eX8_meeting_56, eX8_meeting_59, eX8_meeting_60, eX8_meeting_63, if_pos, if_neg, if_true, if_false, Option.bind_some, Option.toList_some, Option.toList_none, List.cons_append, List.nil_append, e1, e2]
def cntF (A : Nat → Int) (m n : Nat) (what : Int) : Int := if what = 0 then sumR A else if what = 1 then A 7 else if 2 ≤ what ∧ what ≤ 5 then A (what - 2).toNat else if what = 6 then (n : Int) else if what = 7 then (m : Int) else -2
theorem s_count {what : Int} (h : XIs S A m H K V P n) (hx : rng what) : fX8_count [vR 0, vI what] S = some (some (vI (cntF A m n what)), S) := by
  obtain ⟨h1, h2, h3, h4, h5, h6⟩ := h
  obtain ⟨i1, i2, i3, i4, i5, i6, i7, i8⟩ := h1
  obtain ⟨k0, ht, hv, hd, hc⟩ := scn0
  obtain ⟨v0, -⟩ := id hv
  obtain ⟨d0, -⟩ := id hd
  obtain ⟨t0, -⟩ := id ht
  obtain ⟨-, -, k66, -⟩ := rk
  have k69' := k69
  obtain ⟨x1, x2⟩ := id hx
  rw [uX8_count]
  unfold cntF
  by_cases c0 : what = 0
  · subst c0
    have e1 := s_stones hv i3
    rw [if_pos rfl]
    simp (disch := omega) only [eX8_count_0, eX8_count_1, eX8_count_48, eX8_count_49, eX8_count_52, eX8_count_55, eX8_count_58, eX8_count_59, eX8_count_60, eX8_count_63, eX8_count_66, eX8_count_69, eX8_count_70, eX8_count_71, eX8_count_74, eX8_count_77, eX8_count_78, eX8_count_79, eX8_count_80, eX8_count_83, eX8_count_84, eX8_count_85, eX8_count_88, eX8_count_91, eX8_count_92, eX8_count_93, eX8_count_96, eX8_count_99, eX8_count_100, eX8_count_102, if_pos, if_neg, if_true, if_false, Option.bind_some, Option.toList_some, Option.toList_none, List.cons_append, List.nil_append, e1]
    rfl
  · rw [if_neg c0]
    by_cases c1 : what = 1
    · subst c1
      have e1 := s_floodsKept (S := S) hd
      rw [i4.2.2.1] at e1
      rw [if_pos rfl, show A 7 = ((A 7).toNat : Int) by omega]
      simp (disch := omega) only [eX8_count_0, eX8_count_1, eX8_count_48, eX8_count_49, eX8_count_52, eX8_count_55, eX8_count_58, eX8_count_59, eX8_count_60, eX8_count_63, eX8_count_66, eX8_count_69, eX8_count_70, eX8_count_71, eX8_count_74, eX8_count_77, eX8_count_78, eX8_count_79, eX8_count_80, eX8_count_83, eX8_count_84, eX8_count_85, eX8_count_88, eX8_count_91, eX8_count_92, eX8_count_93, eX8_count_96, eX8_count_99, eX8_count_100, eX8_count_102, if_pos, if_neg, if_true, if_false, Option.bind_some, Option.toList_some, Option.toList_none, List.cons_append, List.nil_append, e1]
    · rw [if_neg c1]
      by_cases c2 : 2 ≤ what ∧ what ≤ 5
      · rw [if_pos c2]
        have e1 := s_valueOf (S := S) (j := what - 2) ht (by omega)
        rw [i1 _ (by omega)] at e1
        rcases (show what = 2 ∨ what = 3 ∨ what = 4 ∨ what = 5 by omega) with rfl | rfl | rfl | rfl
        · simp (disch := omega) only [eX8_count_0, eX8_count_1, eX8_count_48, eX8_count_49, eX8_count_52, eX8_count_55, eX8_count_58, eX8_count_59, eX8_count_60, eX8_count_63, eX8_count_66, eX8_count_69, eX8_count_70, eX8_count_71, eX8_count_74, eX8_count_77, eX8_count_78, eX8_count_79, eX8_count_80, eX8_count_83, eX8_count_84, eX8_count_85, eX8_count_88, eX8_count_91, eX8_count_92, eX8_count_93, eX8_count_96, eX8_count_99, eX8_count_100, eX8_count_102, if_pos, if_neg, if_true, if_false, Option.bind_some, Option.toList_some, Option.toList_none, List.cons_append, List.nil_append, e1]
        · simp (disch := omega) only [eX8_count_0, eX8_count_1, eX8_count_48, eX8_count_49, eX8_count_52, eX8_count_55, eX8_count_58, eX8_count_59, eX8_count_60, eX8_count_63, eX8_count_66, eX8_count_69, eX8_count_70, eX8_count_71, eX8_count_74, eX8_count_77, eX8_count_78, eX8_count_79, eX8_count_80, eX8_count_83, eX8_count_84, eX8_count_85, eX8_count_88, eX8_count_91, eX8_count_92, eX8_count_93, eX8_count_96, eX8_count_99, eX8_count_100, eX8_count_102, if_pos, if_neg, if_true, if_false, Option.bind_some, Option.toList_some, Option.toList_none, List.cons_append, List.nil_append, e1]
        · simp (disch := omega) only [eX8_count_0, eX8_count_1, eX8_count_48, eX8_count_49, eX8_count_52, eX8_count_55, eX8_count_58, eX8_count_59, eX8_count_60, eX8_count_63, eX8_count_66, eX8_count_69, eX8_count_70, eX8_count_71, eX8_count_74, eX8_count_77, eX8_count_78, eX8_count_79, eX8_count_80, eX8_count_83, eX8_count_84, eX8_count_85, eX8_count_88, eX8_count_91, eX8_count_92, eX8_count_93, eX8_count_96, eX8_count_99, eX8_count_100, eX8_count_102, if_pos, if_neg, if_true, if_false, Option.bind_some, Option.toList_some, Option.toList_none, List.cons_append, List.nil_append, e1]
        · simp (disch := omega) only [eX8_count_0, eX8_count_1, eX8_count_48, eX8_count_49, eX8_count_52, eX8_count_55, eX8_count_58, eX8_count_59, eX8_count_60, eX8_count_63, eX8_count_66, eX8_count_69, eX8_count_70, eX8_count_71, eX8_count_74, eX8_count_77, eX8_count_78, eX8_count_79, eX8_count_80, eX8_count_83, eX8_count_84, eX8_count_85, eX8_count_88, eX8_count_91, eX8_count_92, eX8_count_93, eX8_count_96, eX8_count_99, eX8_count_100, eX8_count_102, if_pos, if_neg, if_true, if_false, Option.bind_some, Option.toList_some, Option.toList_none, List.cons_append, List.nil_append, e1]
      · rw [if_neg c2]
        by_cases c6 : what = 6
        · subst c6
          have e1 : fX2_length [vR 69] S = some (some (vI (S 69 1)), S) := by
            rw [uX2_length]
            simp (disch := omega) only [eX2_length_0, eX2_length_1, eX2_length_4, if_pos, if_neg, if_true, if_false, Option.bind_some, Option.toList_some, Option.toList_none, List.cons_append, List.nil_append]
          rw [h6.1] at e1
          rw [if_pos rfl]
          simp (disch := omega) only [eX8_count_0, eX8_count_1, eX8_count_48, eX8_count_49, eX8_count_52, eX8_count_55, eX8_count_58, eX8_count_59, eX8_count_60, eX8_count_63, eX8_count_66, eX8_count_69, eX8_count_70, eX8_count_71, eX8_count_74, eX8_count_77, eX8_count_78, eX8_count_79, eX8_count_80, eX8_count_83, eX8_count_84, eX8_count_85, eX8_count_88, eX8_count_91, eX8_count_92, eX8_count_93, eX8_count_96, eX8_count_99, eX8_count_100, eX8_count_102, if_pos, if_neg, if_true, if_false, Option.bind_some, Option.toList_some, Option.toList_none, List.cons_append, List.nil_append, e1]
        · rw [if_neg c6]
          by_cases c7 : what = 7
          · subst c7
            have e1 := s_ringKept (S := S) k66
            rw [h3.2.2.1] at e1
            rw [if_pos rfl]
            simp (disch := omega) only [eX8_count_0, eX8_count_1, eX8_count_48, eX8_count_49, eX8_count_52, eX8_count_55, eX8_count_58, eX8_count_59, eX8_count_60, eX8_count_63, eX8_count_66, eX8_count_69, eX8_count_70, eX8_count_71, eX8_count_74, eX8_count_77, eX8_count_78, eX8_count_79, eX8_count_80, eX8_count_83, eX8_count_84, eX8_count_85, eX8_count_88, eX8_count_91, eX8_count_92, eX8_count_93, eX8_count_96, eX8_count_99, eX8_count_100, eX8_count_102, if_pos, if_neg, if_true, if_false, Option.bind_some, Option.toList_some, Option.toList_none, List.cons_append, List.nil_append, e1]
          · rw [if_neg c7]
            simp (disch := omega) only [eX8_count_0, eX8_count_1, eX8_count_48, eX8_count_49, eX8_count_52, eX8_count_55, eX8_count_58, eX8_count_59, eX8_count_60, eX8_count_63, eX8_count_66, eX8_count_69, eX8_count_70, eX8_count_71, eX8_count_74, eX8_count_77, eX8_count_78, eX8_count_79, eX8_count_80, eX8_count_83, eX8_count_84, eX8_count_85, eX8_count_88, eX8_count_91, eX8_count_92, eX8_count_93, eX8_count_96, eX8_count_99, eX8_count_100, eX8_count_102, if_pos, if_neg, if_true, if_false, Option.bind_some, Option.toList_some, Option.toList_none, List.cons_append, List.nil_append]
end ROOT3
