/-! the reference: slipping -/
section MO10
variable {S : MM}
theorem z_slip {w : Nat} (hw : w < 3) (hr : RunR (S 594)) (h4 : 0 ≤ S 594 4 ∧ S 594 4 ≤ 2) (hR : RB (RA (S 594))) : ∃ S', fX9_slip [vR 593, vI (w : Int)] S = some (none, S') ∧ S' 594 = mSlipW (S 594) (RA (S 594) w) w ∧ (∀ a, a ≠ 594 → S' a = S a) := by
  obtain ⟨k0, a0, -⟩ := mk
  have hs := (hr.2.2.2.2 w hw).1
  have e1 := z_stands (S := S) hw
  have n4 : (4 : Int).toNat = 4 := rfl
  unfold mSlipW
  rw [uX9_slip]
  by_cases c : S 594 4 = 0
  · rw [if_neg (fun y => y.1 c)]
    refine ⟨S, ?_, rfl, fun _ _ => rfl⟩
    simp (disch := omega) only [eX9_slip_0, eX9_slip_1, eX9_slip_2, eX9_slip_5, eX9_slip_6, eX9_slip_7, eX9_slip_10, eX9_slip_11, eX9_slip_11x, eX9_slip_11y, eX9_slip_12, eX9_slip_15, eX9_slip_16, eX9_slip_19, eX9_slip_22, eX9_slip_23, eX9_slip_24, eX9_slip_25, eX9_slip_28, eX9_slip_31, eX9_slip_32, eX9_slip_35, eX9_slip_37, eX9_slip_38, eX9_slip_39, eX9_slip_40, eX9_slip_41, eX9_slip_42, eX9_slip_45, eX9_slip_46, eX9_slip_47, eX9_slip_50, eX9_slip_52, eX9_slip_53, eX9_slip_54, eX9_slip_55, eX9_slip_55x, eX9_slip_55y, eX9_slip_56, eX9_slip_57, eX9_slip_60, eX9_slip_61, eX9_slip_61x, eX9_slip_61y, eX9_slip_62, eX9_slip_63, eX9_slip_66, eX9_slip_67, eX9_slip_70, eX9_slip_71, eX9_slip_72, eX9_slip_73, if_pos, if_neg, if_true, if_false, Option.bind_some, Option.toList_some, Option.toList_none, List.cons_append, List.nil_append, e1, n4]
  · by_cases d : S 594 (20 + w) = 300
    · rw [if_neg (fun y => y.2.1 d)]
      refine ⟨S, ?_, rfl, fun _ _ => rfl⟩
      simp (disch := omega) only [eX9_slip_0, eX9_slip_1, eX9_slip_2, eX9_slip_5, eX9_slip_6, eX9_slip_7, eX9_slip_10, eX9_slip_11, eX9_slip_11x, eX9_slip_11y, eX9_slip_12, eX9_slip_15, eX9_slip_16, eX9_slip_19, eX9_slip_22, eX9_slip_23, eX9_slip_24, eX9_slip_25, eX9_slip_28, eX9_slip_31, eX9_slip_32, eX9_slip_35, eX9_slip_37, eX9_slip_38, eX9_slip_39, eX9_slip_40, eX9_slip_41, eX9_slip_42, eX9_slip_45, eX9_slip_46, eX9_slip_47, eX9_slip_50, eX9_slip_52, eX9_slip_53, eX9_slip_54, eX9_slip_55, eX9_slip_55x, eX9_slip_55y, eX9_slip_56, eX9_slip_57, eX9_slip_60, eX9_slip_61, eX9_slip_61x, eX9_slip_61y, eX9_slip_62, eX9_slip_63, eX9_slip_66, eX9_slip_67, eX9_slip_70, eX9_slip_71, eX9_slip_72, eX9_slip_73, if_pos, if_neg, if_true, if_false, Option.bind_some, Option.toList_some, Option.toList_none, List.cons_append, List.nil_append, e1, n4]
    · obtain ⟨k, hk⟩ : ∃ k : Nat, S 594 (20 + w) = (k : Int) := ⟨(S 594 (20 + w)).toNat, by omega⟩
      rw [hk] at e1 ⊢
      have hk3 : k < 300 := by omega
      have e2 := z_repeats (S := S) hw hk3
      have hb := hR w k hw hk3
      rw [Int.toNat_natCast]
      by_cases z : 0 < RA (S 594) w k
      · rw [if_neg (fun y => y.2.2 z)]
        refine ⟨S, ?_, rfl, fun _ _ => rfl⟩
        simp (disch := omega) only [eX9_slip_0, eX9_slip_1, eX9_slip_2, eX9_slip_5, eX9_slip_6, eX9_slip_7, eX9_slip_10, eX9_slip_11, eX9_slip_11x, eX9_slip_11y, eX9_slip_12, eX9_slip_15, eX9_slip_16, eX9_slip_19, eX9_slip_22, eX9_slip_23, eX9_slip_24, eX9_slip_25, eX9_slip_28, eX9_slip_31, eX9_slip_32, eX9_slip_35, eX9_slip_37, eX9_slip_38, eX9_slip_39, eX9_slip_40, eX9_slip_41, eX9_slip_42, eX9_slip_45, eX9_slip_46, eX9_slip_47, eX9_slip_50, eX9_slip_52, eX9_slip_53, eX9_slip_54, eX9_slip_55, eX9_slip_55x, eX9_slip_55y, eX9_slip_56, eX9_slip_57, eX9_slip_60, eX9_slip_61, eX9_slip_61x, eX9_slip_61y, eX9_slip_62, eX9_slip_63, eX9_slip_66, eX9_slip_67, eX9_slip_70, eX9_slip_71, eX9_slip_72, eX9_slip_73, if_pos, if_neg, if_true, if_false, Option.bind_some, Option.toList_some, Option.toList_none, List.cons_append, List.nil_append, e1, n4, e2]
      · rw [if_pos ⟨c, by omega, z⟩]
        have z0 : RA (S 594) w k = 0 := by omega
        rw [z0] at e2
        have e3 := z_firstFrom (S := S) hw (show k ≤ 300 by omega) hR
        have e20 : ((20 : Int) + (w : Int)).toNat = 20 + w := by omega
        have e14 : ((14 : Int) + (w : Int)).toNat = 14 + w := by omega
        generalize (fst (RA (S 594) w) k : Int) = v at e3 ⊢
        have u14 : updM S 594 (20 + w) v 594 (14 + w) = S 594 (14 + w) := by rw [updM_eq, up_ne (by omega)]
        have u4 : updM S 594 (20 + w) v 594 4 = S 594 4 := by rw [updM_eq, up_ne (by omega)]
        refine ⟨updM (updM S 594 (20 + w) v) 594 (14 + w) (S 594 (14 + w) + (if S 594 4 = 1 then 1 else 0)), ?_, ?_, fun a ha => by rw [updM_ne ha, updM_ne ha]⟩
        · by_cases o : S 594 4 = 1
          · simp (disch := omega) only [eX9_slip_0, eX9_slip_1, eX9_slip_2, eX9_slip_5, eX9_slip_6, eX9_slip_7, eX9_slip_10, eX9_slip_11, eX9_slip_11x, eX9_slip_11y, eX9_slip_12, eX9_slip_15, eX9_slip_16, eX9_slip_19, eX9_slip_22, eX9_slip_23, eX9_slip_24, eX9_slip_25, eX9_slip_28, eX9_slip_31, eX9_slip_32, eX9_slip_35, eX9_slip_37, eX9_slip_38, eX9_slip_39, eX9_slip_40, eX9_slip_41, eX9_slip_42, eX9_slip_45, eX9_slip_46, eX9_slip_47, eX9_slip_50, eX9_slip_52, eX9_slip_53, eX9_slip_54, eX9_slip_55, eX9_slip_55x, eX9_slip_55y, eX9_slip_56, eX9_slip_57, eX9_slip_60, eX9_slip_61, eX9_slip_61x, eX9_slip_61y, eX9_slip_62, eX9_slip_63, eX9_slip_66, eX9_slip_67, eX9_slip_70, eX9_slip_71, eX9_slip_72, eX9_slip_73, if_pos, if_neg, if_true, if_false, Option.bind_some, Option.toList_some, Option.toList_none, List.cons_append, List.nil_append, e1, n4, e2, e3, e20, e14, u14, u4]
          · simp (disch := omega) only [eX9_slip_0, eX9_slip_1, eX9_slip_2, eX9_slip_5, eX9_slip_6, eX9_slip_7, eX9_slip_10, eX9_slip_11, eX9_slip_11x, eX9_slip_11y, eX9_slip_12, eX9_slip_15, eX9_slip_16, eX9_slip_19, eX9_slip_22, eX9_slip_23, eX9_slip_24, eX9_slip_25, eX9_slip_28, eX9_slip_31, eX9_slip_32, eX9_slip_35, eX9_slip_37, eX9_slip_38, eX9_slip_39, eX9_slip_40, eX9_slip_41, eX9_slip_42, eX9_slip_45, eX9_slip_46, eX9_slip_47, eX9_slip_50, eX9_slip_52, eX9_slip_53, eX9_slip_54, eX9_slip_55, eX9_slip_55x, eX9_slip_55y, eX9_slip_56, eX9_slip_57, eX9_slip_60, eX9_slip_61, eX9_slip_61x, eX9_slip_61y, eX9_slip_62, eX9_slip_63, eX9_slip_66, eX9_slip_67, eX9_slip_70, eX9_slip_71, eX9_slip_72, eX9_slip_73, if_pos, if_neg, if_true, if_false, Option.bind_some, Option.toList_some, Option.toList_none, List.cons_append, List.nil_append, e1, n4, e2, e3, e20, e14, u14, u4]
        · funext j
          rw [updM_eq, updM_eq]
          by_cases j20 : j = 20 + w
          · rw [j20, up_ne (by omega), up_eq, if_pos rfl]
          · by_cases j14 : j = 14 + w
            · have hne : ¬ (14 + w = 20 + w) := by omega
              rw [j14, up_eq, if_neg hne, if_pos rfl]
            · rw [up_ne j14, up_ne j20, if_neg j20, if_neg j14]
end MO10
