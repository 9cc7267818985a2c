/-! the reference: beginning -/
section MO6
variable {S : MM}
theorem fstF_same {r r' : Nat → Int} : ∀ (f k : Nat), k + f ≤ 300 → (∀ j, j < 300 → r j = r' j) → fstF r f k = fstF r' f k := by
  intro f
  induction f with
  | zero => intro k _ _; rfl
  | succ f ih =>
    intro k hk h
    rw [fstF, fstF, h k (by omega), ih (k + 1) (by omega) h]
theorem fst_same {r r' : Nat → Int} {k : Nat} (hk : k ≤ 300) (h : ∀ j, j < 300 → r j = r' j) : fst r k = fst r' k := fstF_same _ _ (by omega) h
theorem l_beg1 : ∀ (f k : Nat) (T : MM), k + f = 20 → 8 ≤ k → ∃ S', rn xX9_beginRun (3, [some (vR 593), some (vI k)], [], T) = rn xX9_beginRun (24, [some (vR 593), some (vI 0)], [], S') ∧ (∀ j, S' 594 j = if k ≤ j ∧ j < 20 then 0 else T 594 j) ∧ (∀ a, a ≠ 594 → S' a = T a) := by
  obtain ⟨k0, a0, -⟩ := mk
  intro f
  induction f with
  | zero =>
    intro k T hk h8
    have e : k = 20 := by omega
    subst e
    refine ⟨T, ?_, fun j => by rw [if_neg (by omega)], fun _ _ => rfl⟩
    rw [eX9_beginRun_3]
    simp (disch := omega) only [eX9_beginRun_0, eX9_beginRun_2, eX9_beginRun_4, eX9_beginRun_6, eX9_beginRun_9, eX9_beginRun_10, eX9_beginRun_13, eX9_beginRun_14, eX9_beginRun_15, eX9_beginRun_16, eX9_beginRun_19, eX9_beginRun_22, eX9_beginRun_23, eX9_beginRun_25, eX9_beginRun_28, eX9_beginRun_31, eX9_beginRun_32, eX9_beginRun_35, eX9_beginRun_38, eX9_beginRun_39, eX9_beginRun_40, eX9_beginRun_41, eX9_beginRun_42, eX9_beginRun_45, eX9_beginRun_48, eX9_beginRun_49, eX9_beginRun_51, eX9_beginRun_52, eX9_beginRun_55, eX9_beginRun_56, eX9_beginRun_59, eX9_beginRun_61, eX9_beginRun_62, eX9_beginRun_63, eX9_beginRun_64, eX9_beginRun_65, eX9_beginRun_66, eX9_beginRun_69, eX9_beginRun_70, eX9_beginRun_70x, eX9_beginRun_70y, eX9_beginRun_71, eX9_beginRun_74, eX9_beginRun_75, eX9_beginRun_78, eX9_beginRun_81, eX9_beginRun_82, eX9_beginRun_85, eX9_beginRun_86, eX9_beginRun_87, eX9_beginRun_90, eX9_beginRun_91, eX9_beginRun_91x, eX9_beginRun_91y, eX9_beginRun_92, eX9_beginRun_93, eX9_beginRun_94, eX9_beginRun_97, eX9_beginRun_99, eX9_beginRun_100, eX9_beginRun_101, eX9_beginRun_104, eX9_beginRun_105, eX9_beginRun_106, eX9_beginRun_109, eX9_beginRun_110, eX9_beginRun_111, eX9_beginRun_112, eX9_beginRun_113, eX9_beginRun_116, if_pos, if_neg, if_true, if_false, Option.bind_some, Option.toList_some, Option.toList_none, List.cons_append, List.nil_append]
  | succ f ih =>
    intro k T hk h8
    obtain ⟨S', w1, w2, w3⟩ := ih (k + 1) (updM T 594 k 0) (by omega) (by omega)
    refine ⟨S', ?_, fun j => ?_, fun a ha => by rw [w3 a ha, updM_ne ha]⟩
    · rw [← w1, eX9_beginRun_3]
      simp (disch := omega) only [eX9_beginRun_0, eX9_beginRun_2, eX9_beginRun_4, eX9_beginRun_6, eX9_beginRun_9, eX9_beginRun_10, eX9_beginRun_13, eX9_beginRun_14, eX9_beginRun_15, eX9_beginRun_16, eX9_beginRun_19, eX9_beginRun_22, eX9_beginRun_23, eX9_beginRun_25, eX9_beginRun_28, eX9_beginRun_31, eX9_beginRun_32, eX9_beginRun_35, eX9_beginRun_38, eX9_beginRun_39, eX9_beginRun_40, eX9_beginRun_41, eX9_beginRun_42, eX9_beginRun_45, eX9_beginRun_48, eX9_beginRun_49, eX9_beginRun_51, eX9_beginRun_52, eX9_beginRun_55, eX9_beginRun_56, eX9_beginRun_59, eX9_beginRun_61, eX9_beginRun_62, eX9_beginRun_63, eX9_beginRun_64, eX9_beginRun_65, eX9_beginRun_66, eX9_beginRun_69, eX9_beginRun_70, eX9_beginRun_70x, eX9_beginRun_70y, eX9_beginRun_71, eX9_beginRun_74, eX9_beginRun_75, eX9_beginRun_78, eX9_beginRun_81, eX9_beginRun_82, eX9_beginRun_85, eX9_beginRun_86, eX9_beginRun_87, eX9_beginRun_90, eX9_beginRun_91, eX9_beginRun_91x, eX9_beginRun_91y, eX9_beginRun_92, eX9_beginRun_93, eX9_beginRun_94, eX9_beginRun_97, eX9_beginRun_99, eX9_beginRun_100, eX9_beginRun_101, eX9_beginRun_104, eX9_beginRun_105, eX9_beginRun_106, eX9_beginRun_109, eX9_beginRun_110, eX9_beginRun_111, eX9_beginRun_112, eX9_beginRun_113, eX9_beginRun_116, if_pos, if_neg, if_true, if_false, Option.bind_some, Option.toList_some, Option.toList_none, List.cons_append, List.nil_append, Int.toNat_natCast]
      rw [show ((k : Int) + 1) = ((k + 1 : Nat) : Int) by omega]
    · rw [w2 j, updM_eq]
      by_cases c : j = k
      · rw [c, up_eq, if_neg (by omega), if_pos (by omega)]
      · rw [up_ne c]
        by_cases d : k ≤ j ∧ j < 20
        · rw [if_pos d, if_pos (by omega)]
        · rw [if_neg d, if_neg (by omega)]
theorem l_beg2 : ∀ (f k : Nat) (T : MM), k + f = 300 → ∃ S', rn xX9_beginRun (24, [some (vR 593), some (vI k)], [], T) = rn xX9_beginRun (50, [some (vR 593), some (vI 0)], [], S') ∧ (∀ j, S' 594 j = if 925 + k ≤ j ∧ j < 1225 then 0 else T 594 j) ∧ (∀ a, a ≠ 594 → S' a = T a) := by
  obtain ⟨k0, a0, -⟩ := mk
  intro f
  induction f with
  | zero =>
    intro k T hk
    have e : k = 300 := by omega
    subst e
    refine ⟨T, ?_, fun j => by rw [if_neg (by omega)], fun _ _ => rfl⟩
    rw [eX9_beginRun_24]
    simp (disch := omega) only [eX9_beginRun_0, eX9_beginRun_2, eX9_beginRun_4, eX9_beginRun_6, eX9_beginRun_9, eX9_beginRun_10, eX9_beginRun_13, eX9_beginRun_14, eX9_beginRun_15, eX9_beginRun_16, eX9_beginRun_19, eX9_beginRun_22, eX9_beginRun_23, eX9_beginRun_25, eX9_beginRun_28, eX9_beginRun_31, eX9_beginRun_32, eX9_beginRun_35, eX9_beginRun_38, eX9_beginRun_39, eX9_beginRun_40, eX9_beginRun_41, eX9_beginRun_42, eX9_beginRun_45, eX9_beginRun_48, eX9_beginRun_49, eX9_beginRun_51, eX9_beginRun_52, eX9_beginRun_55, eX9_beginRun_56, eX9_beginRun_59, eX9_beginRun_61, eX9_beginRun_62, eX9_beginRun_63, eX9_beginRun_64, eX9_beginRun_65, eX9_beginRun_66, eX9_beginRun_69, eX9_beginRun_70, eX9_beginRun_70x, eX9_beginRun_70y, eX9_beginRun_71, eX9_beginRun_74, eX9_beginRun_75, eX9_beginRun_78, eX9_beginRun_81, eX9_beginRun_82, eX9_beginRun_85, eX9_beginRun_86, eX9_beginRun_87, eX9_beginRun_90, eX9_beginRun_91, eX9_beginRun_91x, eX9_beginRun_91y, eX9_beginRun_92, eX9_beginRun_93, eX9_beginRun_94, eX9_beginRun_97, eX9_beginRun_99, eX9_beginRun_100, eX9_beginRun_101, eX9_beginRun_104, eX9_beginRun_105, eX9_beginRun_106, eX9_beginRun_109, eX9_beginRun_110, eX9_beginRun_111, eX9_beginRun_112, eX9_beginRun_113, eX9_beginRun_116, if_pos, if_neg, if_true, if_false, Option.bind_some, Option.toList_some, Option.toList_none, List.cons_append, List.nil_append]
  | succ f ih =>
    intro k T hk
    have e1 : ((925 : Int) + (k : Int)).toNat = 925 + k := by omega
    obtain ⟨S', w1, w2, w3⟩ := ih (k + 1) (updM T 594 (925 + k) 0) (by omega)
    refine ⟨S', ?_, fun j => ?_, fun a ha => by rw [w3 a ha, updM_ne ha]⟩
    · rw [← w1, eX9_beginRun_24]
      simp (disch := omega) only [eX9_beginRun_0, eX9_beginRun_2, eX9_beginRun_4, eX9_beginRun_6, eX9_beginRun_9, eX9_beginRun_10, eX9_beginRun_13, eX9_beginRun_14, eX9_beginRun_15, eX9_beginRun_16, eX9_beginRun_19, eX9_beginRun_22, eX9_beginRun_23, eX9_beginRun_25, eX9_beginRun_28, eX9_beginRun_31, eX9_beginRun_32, eX9_beginRun_35, eX9_beginRun_38, eX9_beginRun_39, eX9_beginRun_40, eX9_beginRun_41, eX9_beginRun_42, eX9_beginRun_45, eX9_beginRun_48, eX9_beginRun_49, eX9_beginRun_51, eX9_beginRun_52, eX9_beginRun_55, eX9_beginRun_56, eX9_beginRun_59, eX9_beginRun_61, eX9_beginRun_62, eX9_beginRun_63, eX9_beginRun_64, eX9_beginRun_65, eX9_beginRun_66, eX9_beginRun_69, eX9_beginRun_70, eX9_beginRun_70x, eX9_beginRun_70y, eX9_beginRun_71, eX9_beginRun_74, eX9_beginRun_75, eX9_beginRun_78, eX9_beginRun_81, eX9_beginRun_82, eX9_beginRun_85, eX9_beginRun_86, eX9_beginRun_87, eX9_beginRun_90, eX9_beginRun_91, eX9_beginRun_91x, eX9_beginRun_91y, eX9_beginRun_92, eX9_beginRun_93, eX9_beginRun_94, eX9_beginRun_97, eX9_beginRun_99, eX9_beginRun_100, eX9_beginRun_101, eX9_beginRun_104, eX9_beginRun_105, eX9_beginRun_106, eX9_beginRun_109, eX9_beginRun_110, eX9_beginRun_111, eX9_beginRun_112, eX9_beginRun_113, eX9_beginRun_116, if_pos, if_neg, if_true, if_false, Option.bind_some, Option.toList_some, Option.toList_none, List.cons_append, List.nil_append, e1]
      rw [show ((k : Int) + 1) = ((k + 1 : Nat) : Int) by omega]
    · rw [w2 j, updM_eq]
      by_cases c : j = 925 + k
      · rw [c, up_eq, if_neg (by omega), if_pos (by omega)]
      · rw [up_ne c]
        by_cases d : 925 + k ≤ j ∧ j < 1225
        · rw [if_pos d, if_pos (by omega)]
        · rw [if_neg d, if_neg (by omega)]
theorem st_beg3 {w : Nat} (hw : w < 3) (hR : RB (RA (S 594))) (h0 : 0 ≤ S 594 0 ∧ S 594 0 ≤ 299) : rn xX9_beginRun (50, [some (vR 593), some (vI (w : Int))], [], S) = rn xX9_beginRun (50, [some (vR 593), some (vI ((w + 1 : Nat) : Int))], [], updM S 594 (20 + w) (fst (RA (S 594) w) (S 594 0).toNat : Int)) := by
  obtain ⟨k0, a0, -⟩ := mk
  have e1 := z_firstFrom (S := S) (k := (S 594 0).toNat) hw (by omega) hR
  rw [show (((S 594 0).toNat : Nat) : Int) = S 594 0 by omega] at e1
  have e2 : ((20 : Int) + (w : Int)).toNat = 20 + w := by omega
  rw [eX9_beginRun_50]
  simp (disch := omega) only [eX9_beginRun_0, eX9_beginRun_2, eX9_beginRun_4, eX9_beginRun_6, eX9_beginRun_9, eX9_beginRun_10, eX9_beginRun_13, eX9_beginRun_14, eX9_beginRun_15, eX9_beginRun_16, eX9_beginRun_19, eX9_beginRun_22, eX9_beginRun_23, eX9_beginRun_25, eX9_beginRun_28, eX9_beginRun_31, eX9_beginRun_32, eX9_beginRun_35, eX9_beginRun_38, eX9_beginRun_39, eX9_beginRun_40, eX9_beginRun_41, eX9_beginRun_42, eX9_beginRun_45, eX9_beginRun_48, eX9_beginRun_49, eX9_beginRun_51, eX9_beginRun_52, eX9_beginRun_55, eX9_beginRun_56, eX9_beginRun_59, eX9_beginRun_61, eX9_beginRun_62, eX9_beginRun_63, eX9_beginRun_64, eX9_beginRun_65, eX9_beginRun_66, eX9_beginRun_69, eX9_beginRun_70, eX9_beginRun_70x, eX9_beginRun_70y, eX9_beginRun_71, eX9_beginRun_74, eX9_beginRun_75, eX9_beginRun_78, eX9_beginRun_81, eX9_beginRun_82, eX9_beginRun_85, eX9_beginRun_86, eX9_beginRun_87, eX9_beginRun_90, eX9_beginRun_91, eX9_beginRun_91x, eX9_beginRun_91y, eX9_beginRun_92, eX9_beginRun_93, eX9_beginRun_94, eX9_beginRun_97, eX9_beginRun_99, eX9_beginRun_100, eX9_beginRun_101, eX9_beginRun_104, eX9_beginRun_105, eX9_beginRun_106, eX9_beginRun_109, eX9_beginRun_110, eX9_beginRun_111, eX9_beginRun_112, eX9_beginRun_113, eX9_beginRun_116, if_pos, if_neg, if_true, if_false, Option.bind_some, Option.toList_some, Option.toList_none, List.cons_append, List.nil_append, tn0, e1, e2]
  rw [show ((w : Int) + 1) = ((w + 1 : Nat) : Int) by omega]
end MO6
