/-! the reference: looking round -/
section MO2
variable {S : MM}
theorem st_over {w : Nat} (hw : w < 3) (h4 : 0 ≤ S 594 4 ∧ S 594 4 ≤ 2) (h1 : 0 ≤ S 594 1 ∧ S 594 1 ≤ 299) (hs : 0 ≤ S 594 (20 + w) ∧ S 594 (20 + w) ≤ 300) : rn xX9_overIfSo (2, [some (vR 593), some (vI (w : Int))], [], S) = rn xX9_overIfSo (2, [some (vR 593), some (vI ((w + 1 : Nat) : Int))], [], if S 594 4 = 1 ∧ S 594 1 < S 594 (20 + w) then updM S 594 4 2 else S) := by
  obtain ⟨k0, a0, -⟩ := mk
  have e1 := z_stands (S := S) hw
  have n4 : (4 : Int).toNat = 4 := rfl
  rw [eX9_overIfSo_2]
  by_cases c : S 594 4 = 1
  · by_cases d : S 594 1 < S 594 (20 + w)
    · rw [if_pos ⟨c, d⟩]
      by_cases z : S 594 (20 + w) = 300
      · simp (disch := omega) only [eX9_overIfSo_0, eX9_overIfSo_1, eX9_overIfSo_3, eX9_overIfSo_4, eX9_overIfSo_7, eX9_overIfSo_8, eX9_overIfSo_11, eX9_overIfSo_12, eX9_overIfSo_12x, eX9_overIfSo_12y, eX9_overIfSo_13, eX9_overIfSo_14, eX9_overIfSo_17, eX9_overIfSo_18, eX9_overIfSo_19, eX9_overIfSo_22, eX9_overIfSo_25, eX9_overIfSo_28, eX9_overIfSo_29, eX9_overIfSo_30, eX9_overIfSo_33, eX9_overIfSo_34, eX9_overIfSo_37, eX9_overIfSo_38, eX9_overIfSo_38x, eX9_overIfSo_38y, eX9_overIfSo_39, eX9_overIfSo_42, eX9_overIfSo_43, eX9_overIfSo_46, eX9_overIfSo_47, eX9_overIfSo_48, eX9_overIfSo_49, eX9_overIfSo_52, eX9_overIfSo_55, if_pos, if_neg, if_true, if_false, Option.bind_some, Option.toList_some, Option.toList_none, List.cons_append, List.nil_append, n4, tn1, c, e1]
        rw [show ((w : Int) + 1) = ((w + 1 : Nat) : Int) by omega]
      · simp (disch := omega) only [eX9_overIfSo_0, eX9_overIfSo_1, eX9_overIfSo_3, eX9_overIfSo_4, eX9_overIfSo_7, eX9_overIfSo_8, eX9_overIfSo_11, eX9_overIfSo_12, eX9_overIfSo_12x, eX9_overIfSo_12y, eX9_overIfSo_13, eX9_overIfSo_14, eX9_overIfSo_17, eX9_overIfSo_18, eX9_overIfSo_19, eX9_overIfSo_22, eX9_overIfSo_25, eX9_overIfSo_28, eX9_overIfSo_29, eX9_overIfSo_30, eX9_overIfSo_33, eX9_overIfSo_34, eX9_overIfSo_37, eX9_overIfSo_38, eX9_overIfSo_38x, eX9_overIfSo_38y, eX9_overIfSo_39, eX9_overIfSo_42, eX9_overIfSo_43, eX9_overIfSo_46, eX9_overIfSo_47, eX9_overIfSo_48, eX9_overIfSo_49, eX9_overIfSo_52, eX9_overIfSo_55, if_pos, if_neg, if_true, if_false, Option.bind_some, Option.toList_some, Option.toList_none, List.cons_append, List.nil_append, n4, tn1, c, e1]
        rw [show ((w : Int) + 1) = ((w + 1 : Nat) : Int) by omega]
    · rw [if_neg (fun y => d y.2)]
      simp (disch := omega) only [eX9_overIfSo_0, eX9_overIfSo_1, eX9_overIfSo_3, eX9_overIfSo_4, eX9_overIfSo_7, eX9_overIfSo_8, eX9_overIfSo_11, eX9_overIfSo_12, eX9_overIfSo_12x, eX9_overIfSo_12y, eX9_overIfSo_13, eX9_overIfSo_14, eX9_overIfSo_17, eX9_overIfSo_18, eX9_overIfSo_19, eX9_overIfSo_22, eX9_overIfSo_25, eX9_overIfSo_28, eX9_overIfSo_29, eX9_overIfSo_30, eX9_overIfSo_33, eX9_overIfSo_34, eX9_overIfSo_37, eX9_overIfSo_38, eX9_overIfSo_38x, eX9_overIfSo_38y, eX9_overIfSo_39, eX9_overIfSo_42, eX9_overIfSo_43, eX9_overIfSo_46, eX9_overIfSo_47, eX9_overIfSo_48, eX9_overIfSo_49, eX9_overIfSo_52, eX9_overIfSo_55, if_pos, if_neg, if_true, if_false, Option.bind_some, Option.toList_some, Option.toList_none, List.cons_append, List.nil_append, n4, tn1, c, e1]
      rw [show ((w : Int) + 1) = ((w + 1 : Nat) : Int) by omega]
  · rw [if_neg (fun y => c y.1)]
    simp (disch := omega) only [eX9_overIfSo_0, eX9_overIfSo_1, eX9_overIfSo_3, eX9_overIfSo_4, eX9_overIfSo_7, eX9_overIfSo_8, eX9_overIfSo_11, eX9_overIfSo_12, eX9_overIfSo_12x, eX9_overIfSo_12y, eX9_overIfSo_13, eX9_overIfSo_14, eX9_overIfSo_17, eX9_overIfSo_18, eX9_overIfSo_19, eX9_overIfSo_22, eX9_overIfSo_25, eX9_overIfSo_28, eX9_overIfSo_29, eX9_overIfSo_30, eX9_overIfSo_33, eX9_overIfSo_34, eX9_overIfSo_37, eX9_overIfSo_38, eX9_overIfSo_38x, eX9_overIfSo_38y, eX9_overIfSo_39, eX9_overIfSo_42, eX9_overIfSo_43, eX9_overIfSo_46, eX9_overIfSo_47, eX9_overIfSo_48, eX9_overIfSo_49, eX9_overIfSo_52, eX9_overIfSo_55, if_pos, if_neg, if_true, if_false, Option.bind_some, Option.toList_some, Option.toList_none, List.cons_append, List.nil_append, n4, tn1]
    rw [show ((w : Int) + 1) = ((w + 1 : Nat) : Int) by omega]
theorem z_overIfSo (h4 : 0 ≤ S 594 4 ∧ S 594 4 ≤ 2) (h1 : 0 ≤ S 594 1 ∧ S 594 1 ≤ 299) (hs : ∀ w : Nat, w < 3 → 0 ≤ S 594 (20 + w) ∧ S 594 (20 + w) ≤ 300) : ∃ S', fX9_overIfSo [vR 593] S = some (none, S') ∧ S' 594 = mOvr (S 594) (S 594 1) ∧ (∀ a, a ≠ 594 → S' a = S a) := by
  have s0 := st_over (S := S) (w := 0) (by omega) h4 h1 (hs 0 (by omega))
  have hg := gr3_s (S 594 20) (S 594 21) (S 594 22)
  have run : ∀ T : MM, rn xX9_overIfSo (2, [some (vR 593), some (vI ((2 + 1 : Nat) : Int))], [], T) = some (none, T) := by
    intro T
    rw [eX9_overIfSo_2]
    simp (disch := omega) only [eX9_overIfSo_0, eX9_overIfSo_1, eX9_overIfSo_3, eX9_overIfSo_4, eX9_overIfSo_7, eX9_overIfSo_8, eX9_overIfSo_11, eX9_overIfSo_12, eX9_overIfSo_12x, eX9_overIfSo_12y, eX9_overIfSo_13, eX9_overIfSo_14, eX9_overIfSo_17, eX9_overIfSo_18, eX9_overIfSo_19, eX9_overIfSo_22, eX9_overIfSo_25, eX9_overIfSo_28, eX9_overIfSo_29, eX9_overIfSo_30, eX9_overIfSo_33, eX9_overIfSo_34, eX9_overIfSo_37, eX9_overIfSo_38, eX9_overIfSo_38x, eX9_overIfSo_38y, eX9_overIfSo_39, eX9_overIfSo_42, eX9_overIfSo_43, eX9_overIfSo_46, eX9_overIfSo_47, eX9_overIfSo_48, eX9_overIfSo_49, eX9_overIfSo_52, eX9_overIfSo_55, if_pos, if_neg, if_true, if_false, Option.bind_some, Option.toList_some, Option.toList_none, List.cons_append, List.nil_append]
  have ent : fX9_overIfSo [vR 593] S = rn xX9_overIfSo (2, [some (vR 593), some (vI ((0 : Nat) : Int))], [], S) := by
    rw [uX9_overIfSo]
    simp (disch := omega) only [eX9_overIfSo_0, eX9_overIfSo_1, eX9_overIfSo_3, eX9_overIfSo_4, eX9_overIfSo_7, eX9_overIfSo_8, eX9_overIfSo_11, eX9_overIfSo_12, eX9_overIfSo_12x, eX9_overIfSo_12y, eX9_overIfSo_13, eX9_overIfSo_14, eX9_overIfSo_17, eX9_overIfSo_18, eX9_overIfSo_19, eX9_overIfSo_22, eX9_overIfSo_25, eX9_overIfSo_28, eX9_overIfSo_29, eX9_overIfSo_30, eX9_overIfSo_33, eX9_overIfSo_34, eX9_overIfSo_37, eX9_overIfSo_38, eX9_overIfSo_38x, eX9_overIfSo_38y, eX9_overIfSo_39, eX9_overIfSo_42, eX9_overIfSo_43, eX9_overIfSo_46, eX9_overIfSo_47, eX9_overIfSo_48, eX9_overIfSo_49, eX9_overIfSo_52, eX9_overIfSo_55, if_pos, if_neg, if_true, if_false, Option.bind_some, Option.toList_some, Option.toList_none, List.cons_append, List.nil_append]
    rfl
  have stay : ∀ (T : MM) (w : Nat), T 594 4 = 2 → w < 3 → (0 ≤ T 594 1 ∧ T 594 1 ≤ 299) → (0 ≤ T 594 (20 + w) ∧ T 594 (20 + w) ≤ 300) → rn xX9_overIfSo (2, [some (vR 593), some (vI (w : Int))], [], T) = rn xX9_overIfSo (2, [some (vR 593), some (vI ((w + 1 : Nat) : Int))], [], T) := by
    intro T w t4 hw t1 ts
    have e := st_over (S := T) hw (by omega) t1 ts
    rw [if_neg (fun y => by omega)] at e
    exact e
  have u4 : updM S 594 4 2 594 4 = 2 := by rw [updM_eq, up_eq]
  have uk : ∀ k, k ≠ 4 → updM S 594 4 2 594 k = S 594 k := fun k hk => by rw [updM_eq, up_ne hk]
  unfold mOvr
  by_cases c : S 594 4 = 1
  · have s1 := st_over (S := S) (w := 1) (by omega) h4 h1 (hs 1 (by omega))
    have s2 := st_over (S := S) (w := 2) (by omega) h4 h1 (hs 2 (by omega))
    have t1 := stay (updM S 594 4 2) 1 u4 (by omega) (by rw [uk 1 (by omega)]; exact h1) (by rw [uk (20 + 1) (by omega)]; exact hs 1 (by omega))
    have t2 := stay (updM S 594 4 2) 2 u4 (by omega) (by rw [uk 1 (by omega)]; exact h1) (by rw [uk (20 + 2) (by omega)]; exact hs 2 (by omega))
    by_cases g : S 594 1 < gr3 (S 594 20) (S 594 21) (S 594 22)
    · rw [if_pos ⟨c, g⟩]
      refine ⟨updM S 594 4 2, ?_, updM_eq, fun a ha => updM_ne ha⟩
      rw [ent, s0]
      by_cases d0 : S 594 1 < S 594 (20 + 0)
      · rw [if_pos ⟨c, d0⟩, t1, t2, run]
      · rw [if_neg (fun y => d0 y.2), s1]
        by_cases d1 : S 594 1 < S 594 (20 + 1)
        · rw [if_pos ⟨c, d1⟩, t2, run]
        · rw [if_neg (fun y => d1 y.2), s2]
          have d2 : S 594 1 < S 594 (20 + 2) := by
            have e0 : S 594 (20 + 0) = S 594 20 := rfl
            have e1 : S 594 (20 + 1) = S 594 21 := rfl
            have e2 : S 594 (20 + 2) = S 594 22 := rfl
            rw [e0] at d0
            rw [e1] at d1
            rw [e2]
            omega
          rw [if_pos ⟨c, d2⟩, run]
    · rw [if_neg (fun y => g y.2)]
      refine ⟨S, ?_, rfl, fun _ _ => rfl⟩
      have e0 : S 594 (20 + 0) = S 594 20 := rfl
      have e1 : S 594 (20 + 1) = S 594 21 := rfl
      have e2 : S 594 (20 + 2) = S 594 22 := rfl
      rw [if_neg (fun y => by rw [e0] at y; omega)] at s0
      rw [if_neg (fun y => by rw [e1] at y; omega)] at s1
      rw [if_neg (fun y => by rw [e2] at y; omega)] at s2
      rw [ent, s0, s1, s2, run]
  · rw [if_neg (fun y => c y.1)]
    have s1 := st_over (S := S) (w := 1) (by omega) h4 h1 (hs 1 (by omega))
    have s2 := st_over (S := S) (w := 2) (by omega) h4 h1 (hs 2 (by omega))
    rw [if_neg (fun y => c y.1)] at s0 s1 s2
    refine ⟨S, ?_, rfl, fun _ _ => rfl⟩
    rw [ent, s0, s1, s2, run]
theorem z_rowsAt {k : Nat} (hk : k < 300) : fX9_rowsAt [vR 593, vI (k : Int)] S = some (some (vI (rwR (RA (S 594)) (k : Int))), S) := by
  have e0 := z_repeats (S := S) (w := 0) (by omega) hk
  have e1 := z_repeats (S := S) (w := 1) (by omega) hk
  have e2 := z_repeats (S := S) (w := 2) (by omega) hk
  rw [show ((0 : Nat) : Int) = 0 from rfl] at e0
  rw [show ((1 : Nat) : Int) = 1 from rfl] at e1
  rw [show ((2 : Nat) : Int) = 2 from rfl] at e2
  have er : rwR (RA (S 594)) (k : Int) = RA (S 594) 0 k * RA (S 594) 1 k * RA (S 594) 2 k := by
    unfold rwR rv
    rw [if_pos (by omega), if_pos (by omega), if_pos (by omega), Int.toNat_natCast]
  rw [er, uX9_rowsAt]
  simp (disch := omega) only [eX9_rowsAt_0, eX9_rowsAt_1, eX9_rowsAt_2, eX9_rowsAt_3, eX9_rowsAt_6, eX9_rowsAt_7, eX9_rowsAt_8, eX9_rowsAt_9, eX9_rowsAt_12, eX9_rowsAt_13, eX9_rowsAt_14, eX9_rowsAt_15, eX9_rowsAt_16, eX9_rowsAt_19, eX9_rowsAt_20, if_pos, if_neg, if_true, if_false, Option.bind_some, Option.toList_some, Option.toList_none, List.cons_append, List.nil_append, e0, e1, e2]
theorem z_greatest (hs : ∀ w : Nat, w < 3 → 0 ≤ S 594 (20 + w) ∧ S 594 (20 + w) ≤ 300) : fX9_greatest [vR 593] S = some (some (vI (gr3 (S 594 20) (S 594 21) (S 594 22))), S) := by
  have step : ∀ (w : Nat) (x : Int), w < 3 → (0 ≤ x ∧ x ≤ 300) → rn xX9_greatest (4, [some (vR 593), some (vI x), some (vI (w : Int))], [], S) = rn xX9_greatest (4, [some (vR 593), some (vI (if x < S 594 (20 + w) then S 594 (20 + w) else x)), some (vI ((w + 1 : Nat) : Int))], [], S) := by
    intro w x hw hx
    have e1 := z_stands (S := S) hw
    have hb := hs w hw
    rw [eX9_greatest_4]
    by_cases c : x < S 594 (20 + w)
    · rw [if_pos c]
      simp (disch := omega) only [eX9_greatest_0, eX9_greatest_1, eX9_greatest_2, eX9_greatest_3, eX9_greatest_5, eX9_greatest_6, eX9_greatest_9, eX9_greatest_10, eX9_greatest_11, eX9_greatest_14, eX9_greatest_15, eX9_greatest_18, eX9_greatest_19, eX9_greatest_20, eX9_greatest_23, eX9_greatest_26, eX9_greatest_27, eX9_greatest_28, eX9_greatest_31, eX9_greatest_34, eX9_greatest_35, if_pos, if_neg, if_true, if_false, Option.bind_some, Option.toList_some, Option.toList_none, List.cons_append, List.nil_append, e1]
      rw [show ((w : Int) + 1) = ((w + 1 : Nat) : Int) by omega]
    · rw [if_neg c]
      simp (disch := omega) only [eX9_greatest_0, eX9_greatest_1, eX9_greatest_2, eX9_greatest_3, eX9_greatest_5, eX9_greatest_6, eX9_greatest_9, eX9_greatest_10, eX9_greatest_11, eX9_greatest_14, eX9_greatest_15, eX9_greatest_18, eX9_greatest_19, eX9_greatest_20, eX9_greatest_23, eX9_greatest_26, eX9_greatest_27, eX9_greatest_28, eX9_greatest_31, eX9_greatest_34, eX9_greatest_35, if_pos, if_neg, if_true, if_false, Option.bind_some, Option.toList_some, Option.toList_none, List.cons_append, List.nil_append, e1]
      rw [show ((w : Int) + 1) = ((w + 1 : Nat) : Int) by omega]
  have b0 : 0 ≤ S 594 20 ∧ S 594 20 ≤ 300 := hs 0 (by omega)
  have b1 : 0 ≤ S 594 21 ∧ S 594 21 ≤ 300 := hs 1 (by omega)
  have b2 : 0 ≤ S 594 22 ∧ S 594 22 ≤ 300 := hs 2 (by omega)
  have s0 := step 0 0 (by omega) (by omega)
  rw [show (if (0 : Int) < S 594 (20 + 0) then S 594 (20 + 0) else 0) = S 594 20 by
    show (if (0 : Int) < S 594 20 then S 594 20 else 0) = S 594 20
    split <;> omega] at s0
  have s1 := step 1 (S 594 20) (by omega) b0
  rw [show S 594 (20 + 1) = S 594 21 from rfl] at s1
  obtain ⟨x, hx⟩ : ∃ x, x = (if S 594 20 < S 594 21 then S 594 21 else S 594 20) := ⟨_, rfl⟩
  rw [← hx] at s1
  have s2 := step 2 x (by omega) (by rw [hx]; split <;> omega)
  rw [show S 594 (20 + 2) = S 594 22 from rfl] at s2
  have hg : (if x < S 594 22 then S 594 22 else x) = gr3 (S 594 20) (S 594 21) (S 594 22) := by
    rw [hx]
    unfold gr3
    repeat' (first | omega | split)
  rw [hg] at s2
  have ent : fX9_greatest [vR 593] S = rn xX9_greatest (4, [some (vR 593), some (vI 0), some (vI ((0 : Nat) : Int))], [], S) := by
    rw [uX9_greatest]
    simp (disch := omega) only [eX9_greatest_0, eX9_greatest_1, eX9_greatest_2, eX9_greatest_3, eX9_greatest_5, eX9_greatest_6, eX9_greatest_9, eX9_greatest_10, eX9_greatest_11, eX9_greatest_14, eX9_greatest_15, eX9_greatest_18, eX9_greatest_19, eX9_greatest_20, eX9_greatest_23, eX9_greatest_26, eX9_greatest_27, eX9_greatest_28, eX9_greatest_31, eX9_greatest_34, eX9_greatest_35, if_pos, if_neg, if_true, if_false, Option.bind_some, Option.toList_some, Option.toList_none, List.cons_append, List.nil_append]
    rfl
  rw [ent, s0, s1, s2, eX9_greatest_4]
  simp (disch := omega) only [eX9_greatest_0, eX9_greatest_1, eX9_greatest_2, eX9_greatest_3, eX9_greatest_5, eX9_greatest_6, eX9_greatest_9, eX9_greatest_10, eX9_greatest_11, eX9_greatest_14, eX9_greatest_15, eX9_greatest_18, eX9_greatest_19, eX9_greatest_20, eX9_greatest_23, eX9_greatest_26, eX9_greatest_27, eX9_greatest_28, eX9_greatest_31, eX9_greatest_34, eX9_greatest_35, if_pos, if_neg, if_true, if_false, Option.bind_some, Option.toList_some, Option.toList_none, List.cons_append, List.nil_append]
end MO2
