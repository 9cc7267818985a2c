/-! the reference: beginning a run -/
section MO7
variable {S : MM}
theorem rwR_R {R R' : Nat → Nat → Int} (h : ∀ u k, u < 3 → k < 300 → R u k = R' u k) (key : Int) : rwR R key = rwR R' key := by
  unfold rwR rv
  by_cases c : 0 ≤ key ∧ key < 300
  · rw [if_pos c, if_pos c, if_pos c, if_pos c, if_pos c, if_pos c, h 0 _ (by omega) (by omega), h 1 _ (by omega) (by omega), h 2 _ (by omega) (by omega)]
  · rw [if_neg c, if_neg c, if_neg c, if_neg c, if_neg c, if_neg c]
theorem mLook_R {A : Nat → Int} {R R' : Nat → Nat → Int} (h : ∀ u k, u < 3 → k < 300 → R u k = R' u k) : mLook A R = mLook A R' := by
  unfold mLook
  rw [rwR_R h]
theorem z_beginRun (hA : StgR (S 594)) (hR : RB (RA (S 594))) : ∃ S', fX9_beginRun [vR 593] S = some (none, S') ∧ S' 594 = mBegin (S 594) ∧ (∀ a, a ≠ 594 → S' a = S a) := by
  obtain ⟨k0, a0, -⟩ := mk
  obtain ⟨y0, y1, y2, y3⟩ := id hA
  obtain ⟨T1, e1, g1, f1⟩ := l_beg1 12 8 S rfl (by omega)
  obtain ⟨T2, e2, g2, f2⟩ := l_beg2 300 0 T1 rfl
  have lo2 : ∀ k, (k < 8 ∨ (20 ≤ k ∧ k < 925) ∨ 1225 ≤ k) → T2 594 k = S 594 k := fun k hk => by rw [g2, if_neg (by omega), g1, if_neg (by omega)]
  have R2 : ∀ (u k : Nat), u < 3 → k < 300 → RA (T2 594) u k = RA (S 594) u k := fun u k hu hk => lo2 _ (by omega)
  have RBof : ∀ T : MM, (∀ (u k : Nat), u < 3 → k < 300 → RA (T 594) u k = RA (S 594) u k) → RB (RA (T 594)) := fun T h u k hu hk => by rw [h u k hu hk]; exact hR u k hu hk
  have Rup : ∀ (T : MM) (k : Nat) (z : Int), k < 25 → (∀ (u k : Nat), u < 3 → k < 300 → RA (T 594) u k = RA (S 594) u k) → ∀ (u j : Nat), u < 3 → j < 300 → RA (updM T 594 k z 594) u j = RA (S 594) u j := fun T k z hk h u j hu hj => by
    rw [← h u j hu hj, updM_eq]
    exact up_ne (by omega)
  have f0' : ∀ w : Nat, w < 3 → ∀ T : MM, (∀ (u k : Nat), u < 3 → k < 300 → RA (T 594) u k = RA (S 594) u k) → fst (RA (T 594) w) (S 594 0).toNat = fst (RA (S 594) w) (S 594 0).toNat := fun w hw T h => fst_same (by omega) (fun j hj => h w j hw hj)
  have z2 : T2 594 0 = S 594 0 := lo2 0 (by omega)
  have e3 := st_beg3 (S := T2) (w := 0) (by omega) (RBof T2 R2) (by rw [z2]; exact y0)
  rw [z2, f0' 0 (by omega) T2 R2] at e3
  obtain ⟨T3, hT3⟩ : ∃ T, T = updM T2 594 (20 + 0) (fst (RA (S 594) 0) (S 594 0).toNat : Int) := ⟨_, rfl⟩
  rw [← hT3] at e3
  have R3 : ∀ (u k : Nat), u < 3 → k < 300 → RA (T3 594) u k = RA (S 594) u k := by rw [hT3]; exact Rup T2 (20 + 0) _ (by omega) R2
  have z3 : T3 594 0 = S 594 0 := by rw [hT3, updM_eq, up_ne (by omega)]; exact z2
  have e4 := st_beg3 (S := T3) (w := 1) (by omega) (RBof T3 R3) (by rw [z3]; exact y0)
  rw [z3, f0' 1 (by omega) T3 R3] at e4
  obtain ⟨T4, hT4⟩ : ∃ T, T = updM T3 594 (20 + 1) (fst (RA (S 594) 1) (S 594 0).toNat : Int) := ⟨_, rfl⟩
  rw [← hT4] at e4
  have R4' : ∀ (u k : Nat), u < 3 → k < 300 → RA (T4 594) u k = RA (S 594) u k := by rw [hT4]; exact Rup T3 (20 + 1) _ (by omega) R3
  have z4 : T4 594 0 = S 594 0 := by rw [hT4, updM_eq, up_ne (by omega)]; exact z3
  have e5 := st_beg3 (S := T4) (w := 2) (by omega) (RBof T4 R4') (by rw [z4]; exact y0)
  rw [z4, f0' 2 (by omega) T4 R4'] at e5
  obtain ⟨T5, hT5⟩ : ∃ T, T = updM T4 594 (20 + 2) (fst (RA (S 594) 2) (S 594 0).toNat : Int) := ⟨_, rfl⟩
  rw [← hT5] at e5
  have z5 : T5 594 0 = S 594 0 := by rw [hT5, updM_eq, up_ne (by omega)]; exact z4
  have z53 : updM T5 594 5 (S 594 0) 594 3 = S 594 3 := by
    rw [updM_eq, up_ne (by omega), hT5, updM_eq, up_ne (by omega), hT4, updM_eq, up_ne (by omega), hT3, updM_eq, up_ne (by omega)]
    exact lo2 3 (by omega)
  have e6 := z_inTurn (S := updM T5 594 5 (S 594 0)) (p := 0) z53 y3 (by omega)
  obtain ⟨T6, hT6⟩ : ∃ T, T = updM (updM (updM T5 594 5 (S 594 0)) 594 6 (trn (S 594 3) 0)) 594 4 1 := ⟨_, rfl⟩
  have h6 : T6 594 = mBeg (S 594) (RA (S 594)) := by
    funext k
    rw [hT6, updM_eq, updM_eq, updM_eq]
    unfold mBeg
    by_cases c4 : k = 4
    · rw [c4, up_eq, if_pos rfl]
    · rw [up_ne c4, if_neg c4]
      by_cases c5 : k = 5
      · rw [c5, up_ne (by omega), up_eq, if_pos rfl]
      · by_cases c6 : k = 6
        · rw [c6, up_eq, if_neg (by omega), if_pos rfl]
        · rw [up_ne c6, up_ne c5, if_neg c5, if_neg c6, hT5, updM_eq, hT4, updM_eq, hT3, updM_eq]
          by_cases c22 : k = 22
          · rw [c22, up_eq, if_neg (by omega), if_neg (by omega), if_neg (by omega), if_pos rfl]
          · by_cases c21 : k = 21
            · rw [c21, up_ne (by omega), up_eq, if_neg (by omega), if_neg (by omega), if_pos rfl]
            · by_cases c20 : k = 20
              · rw [c20, up_ne (by omega), up_ne (by omega), up_eq, if_neg (by omega), if_pos rfl]
              · rw [up_ne c22, up_ne c21, up_ne c20, g2, g1, if_neg c20, if_neg c21, if_neg c22]
                by_cases d1 : 8 ≤ k ∧ k < 20
                · rw [if_neg (by omega), if_pos d1, if_pos d1]
                · rw [if_neg d1, if_neg d1]
  have hr6 : RunR (T6 594) := by rw [h6]; exact RunR_beg hA
  have q4 : T6 594 4 = 1 := by rw [h6]; rfl
  have q1 : T6 594 1 = S 594 1 := by rw [h6]; rfl
  obtain ⟨S', e7, g7, f7⟩ := z_lookRound (S := T6) hr6 (by rw [q4]; omega) (by rw [q1]; exact y1)
  have n4 : (4 : Int).toNat = 4 := rfl
  have n5 : (5 : Int).toNat = 5 := rfl
  have n6 : (6 : Int).toNat = 6 := rfl
  refine ⟨S', ?_, ?_, fun a ha => by rw [f7 a ha, hT6, updM_ne ha, updM_ne ha, updM_ne ha, hT5, updM_ne ha, hT4, updM_ne ha, hT3, updM_ne ha, f2 a ha, f1 a ha]⟩
  · rw [uX9_beginRun]
    simp (disch := omega) only [eX9_beginRun_0, eX9_beginRun_2, eX9_beginRun_4, eX9_beginRun_6, eX9_beginRun_9, eX9_beginRun_10, eX9_beginRun_13, eX9_beginRun_14, eX9_beginRun_15, eX9_beginRun_16, eX9_beginRun_19, eX9_beginRun_22, eX9_beginRun_23, eX9_beginRun_25, eX9_beginRun_28, eX9_beginRun_31, eX9_beginRun_32, eX9_beginRun_35, eX9_beginRun_38, eX9_beginRun_39, eX9_beginRun_40, eX9_beginRun_41, eX9_beginRun_42, eX9_beginRun_45, eX9_beginRun_48, eX9_beginRun_49, eX9_beginRun_51, eX9_beginRun_52, eX9_beginRun_55, eX9_beginRun_56, eX9_beginRun_59, eX9_beginRun_61, eX9_beginRun_62, eX9_beginRun_63, eX9_beginRun_64, eX9_beginRun_65, eX9_beginRun_66, eX9_beginRun_69, eX9_beginRun_70, eX9_beginRun_70x, eX9_beginRun_70y, eX9_beginRun_71, eX9_beginRun_74, eX9_beginRun_75, eX9_beginRun_78, eX9_beginRun_81, eX9_beginRun_82, eX9_beginRun_85, eX9_beginRun_86, eX9_beginRun_87, eX9_beginRun_90, eX9_beginRun_91, eX9_beginRun_91x, eX9_beginRun_91y, eX9_beginRun_92, eX9_beginRun_93, eX9_beginRun_94, eX9_beginRun_97, eX9_beginRun_99, eX9_beginRun_100, eX9_beginRun_101, eX9_beginRun_104, eX9_beginRun_105, eX9_beginRun_106, eX9_beginRun_109, eX9_beginRun_110, eX9_beginRun_111, eX9_beginRun_112, eX9_beginRun_113, eX9_beginRun_116, if_pos, if_neg, if_true, if_false, Option.bind_some, Option.toList_some, Option.toList_none, List.cons_append, List.nil_append]
    rw [show ((8 : Nat) : Int) = 8 from rfl] at e1
    rw [show ((0 : Nat) : Int) = 0 from rfl] at e2 e3
    have e := e1.trans (e2.trans (e3.trans (e4.trans e5)))
    rw [e, eX9_beginRun_50]
    simp (disch := omega) only [eX9_beginRun_0, eX9_beginRun_2, eX9_beginRun_4, eX9_beginRun_6, eX9_beginRun_9, eX9_beginRun_10, eX9_beginRun_13, eX9_beginRun_14, eX9_beginRun_15, eX9_beginRun_16, eX9_beginRun_19, eX9_beginRun_22, eX9_beginRun_23, eX9_beginRun_25, eX9_beginRun_28, eX9_beginRun_31, eX9_beginRun_32, eX9_beginRun_35, eX9_beginRun_38, eX9_beginRun_39, eX9_beginRun_40, eX9_beginRun_41, eX9_beginRun_42, eX9_beginRun_45, eX9_beginRun_48, eX9_beginRun_49, eX9_beginRun_51, eX9_beginRun_52, eX9_beginRun_55, eX9_beginRun_56, eX9_beginRun_59, eX9_beginRun_61, eX9_beginRun_62, eX9_beginRun_63, eX9_beginRun_64, eX9_beginRun_65, eX9_beginRun_66, eX9_beginRun_69, eX9_beginRun_70, eX9_beginRun_70x, eX9_beginRun_70y, eX9_beginRun_71, eX9_beginRun_74, eX9_beginRun_75, eX9_beginRun_78, eX9_beginRun_81, eX9_beginRun_82, eX9_beginRun_85, eX9_beginRun_86, eX9_beginRun_87, eX9_beginRun_90, eX9_beginRun_91, eX9_beginRun_91x, eX9_beginRun_91y, eX9_beginRun_92, eX9_beginRun_93, eX9_beginRun_94, eX9_beginRun_97, eX9_beginRun_99, eX9_beginRun_100, eX9_beginRun_101, eX9_beginRun_104, eX9_beginRun_105, eX9_beginRun_106, eX9_beginRun_109, eX9_beginRun_110, eX9_beginRun_111, eX9_beginRun_112, eX9_beginRun_113, eX9_beginRun_116, if_pos, if_neg, if_true, if_false, Option.bind_some, Option.toList_some, Option.toList_none, List.cons_append, List.nil_append, tn0, n4, n5, n6, z5, e6]
    rw [← hT6]
    simp (disch := omega) only [eX9_beginRun_0, eX9_beginRun_2, eX9_beginRun_4, eX9_beginRun_6, eX9_beginRun_9, eX9_beginRun_10, eX9_beginRun_13, eX9_beginRun_14, eX9_beginRun_15, eX9_beginRun_16, eX9_beginRun_19, eX9_beginRun_22, eX9_beginRun_23, eX9_beginRun_25, eX9_beginRun_28, eX9_beginRun_31, eX9_beginRun_32, eX9_beginRun_35, eX9_beginRun_38, eX9_beginRun_39, eX9_beginRun_40, eX9_beginRun_41, eX9_beginRun_42, eX9_beginRun_45, eX9_beginRun_48, eX9_beginRun_49, eX9_beginRun_51, eX9_beginRun_52, eX9_beginRun_55, eX9_beginRun_56, eX9_beginRun_59, eX9_beginRun_61, eX9_beginRun_62, eX9_beginRun_63, eX9_beginRun_64, eX9_beginRun_65, eX9_beginRun_66, eX9_beginRun_69, eX9_beginRun_70, eX9_beginRun_70x, eX9_beginRun_70y, eX9_beginRun_71, eX9_beginRun_74, eX9_beginRun_75, eX9_beginRun_78, eX9_beginRun_81, eX9_beginRun_82, eX9_beginRun_85, eX9_beginRun_86, eX9_beginRun_87, eX9_beginRun_90, eX9_beginRun_91, eX9_beginRun_91x, eX9_beginRun_91y, eX9_beginRun_92, eX9_beginRun_93, eX9_beginRun_94, eX9_beginRun_97, eX9_beginRun_99, eX9_beginRun_100, eX9_beginRun_101, eX9_beginRun_104, eX9_beginRun_105, eX9_beginRun_106, eX9_beginRun_109, eX9_beginRun_110, eX9_beginRun_111, eX9_beginRun_112, eX9_beginRun_113, eX9_beginRun_116, if_pos, if_neg, if_true, if_false, Option.bind_some, Option.toList_some, Option.toList_none, List.cons_append, List.nil_append, e7]
  · rw [g7]
    unfold mBegin
    rw [h6]
    refine mLook_R (fun u k hu hk => ?_)
    exact mBeg_k (by omega)
end MO7
