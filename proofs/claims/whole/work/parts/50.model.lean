/-! the reference: set -/
section MO12
variable {S : MM}
theorem z_set {j : Nat} {z : Int} {pf pm : Nat} (h2 : S 593 2 = (pf : Int)) (h3 : S 593 3 = (pm : Int)) (hf : pf < 6) (hm : pm ≤ 6) (hA : StgR (S 594)) (hr : RunR (S 594)) (h4 : 0 ≤ S 594 4 ∧ S 594 4 ≤ 2) (hj : j < 4) (hz : 0 ≤ z ∧ z ≤ hiS (j : Int)) : ∃ S', fX9_set [vR 593, vI (j : Int), vI z] S = some (some (vI (S 594 j)), S') ∧ S' 594 = mSet (S 594) j z ∧ Kept S S' pf pm ∧ (∀ a, a ≠ 594 → a ≠ 595 → a ≠ 593 → S' a = S a) := by
  obtain ⟨k0, a0, -⟩ := mk
  have hb := hiS_b (j : Int)
  have e1 := z_in (S := S) (a := (j : Int)) (b := 0) (c := 3) ⟨by omega, by omega⟩ ⟨by omega, by omega⟩ ⟨by omega, by omega⟩
  rw [if_pos (by omega)] at e1
  have e2 := z_in (S := S) (a := z) (b := 0) (c := hiS (j : Int)) ⟨by omega, by omega⟩ ⟨by omega, by omega⟩ ⟨by omega, by omega⟩
  rw [if_pos hz] at e2
  obtain ⟨S1, e3, g1, g2, g3, g4, g5⟩ := z_keep h2 h3 hf hm
  have h594 : S1 594 = S 594 := g5 594 (by omega) (by omega)
  have hK : Kept S S1 pf pm := ⟨g1, g2, g3, g4⟩
  obtain ⟨T, hT⟩ : ∃ T, T = updM S1 594 j z := ⟨_, rfl⟩
  have t594 : T 594 = up (S 594) j z := by rw [hT, updM_eq, h594]
  have tk : ∀ k, 4 ≤ k → T 594 k = S 594 k := fun k hk => by rw [t594, up_ne (by omega)]
  have t1 : 0 ≤ T 594 1 ∧ T 594 1 ≤ 299 := by
    rw [t594]
    by_cases c : 1 = j
    · rw [← c, up_eq]
      omega
    · rw [up_ne c]
      exact hA.2.1
  obtain ⟨S2, e4, u1, u2⟩ := z_overIfSo (S := T) (by rw [tk 4 (by omega)]; exact h4) t1 (fun w hw => by rw [tk _ (by omega)]; exact (hr.2.2.2.2 w hw).1)
  have ta : ∀ a, a ≠ 594 → T a = S1 a := fun a ha => by rw [hT, updM_ne ha]
  refine ⟨S2, ?_, by rw [u1, t594]; rfl, hK.on (by rw [u2 595 (by omega), ta 595 (by omega)]) (by rw [u2 593 (by omega), ta 593 (by omega)]), fun a a1 a2 a3 => by rw [u2 a a1, ta a a1, g5 a a2 a3]⟩
  have q : S1 594 j = S 594 j := by rw [h594]
  rw [uX9_set]
  by_cases d2 : j = 2
  · subst d2
    rw [show hiS ((2 : Nat) : Int) = 2 from rfl] at e2
    simp (disch := omega) only [eX9_set_0, eX9_set_1, eX9_set_2, eX9_set_5, eX9_set_6, eX9_set_9, eX9_set_10, eX9_set_11, eX9_set_14, eX9_set_15, eX9_set_18, eX9_set_21, eX9_set_22, eX9_set_23, eX9_set_24, eX9_set_25, eX9_set_28, eX9_set_31, eX9_set_32, eX9_set_33, eX9_set_34, eX9_set_37, eX9_set_40, eX9_set_42, eX9_set_43, eX9_set_44, eX9_set_47, eX9_set_48, eX9_set_51, eX9_set_52, eX9_set_52x, eX9_set_52y, eX9_set_53, eX9_set_55, eX9_set_56, eX9_set_59, eX9_set_60, eX9_set_61, eX9_set_62, eX9_set_63, eX9_set_66, eX9_set_68, if_pos, if_neg, if_true, if_false, Option.bind_some, Option.toList_some, Option.toList_none, List.cons_append, List.nil_append, e1, e2, e3, Int.toNat_natCast, q]
    rw [← hT]
    simp (disch := omega) only [eX9_set_0, eX9_set_1, eX9_set_2, eX9_set_5, eX9_set_6, eX9_set_9, eX9_set_10, eX9_set_11, eX9_set_14, eX9_set_15, eX9_set_18, eX9_set_21, eX9_set_22, eX9_set_23, eX9_set_24, eX9_set_25, eX9_set_28, eX9_set_31, eX9_set_32, eX9_set_33, eX9_set_34, eX9_set_37, eX9_set_40, eX9_set_42, eX9_set_43, eX9_set_44, eX9_set_47, eX9_set_48, eX9_set_51, eX9_set_52, eX9_set_52x, eX9_set_52y, eX9_set_53, eX9_set_55, eX9_set_56, eX9_set_59, eX9_set_60, eX9_set_61, eX9_set_62, eX9_set_63, eX9_set_66, eX9_set_68, if_pos, if_neg, if_true, if_false, Option.bind_some, Option.toList_some, Option.toList_none, List.cons_append, List.nil_append, e4]
  · by_cases d3 : j = 3
    · subst d3
      rw [show hiS ((3 : Nat) : Int) = 5 from rfl] at e2
      simp (disch := omega) only [eX9_set_0, eX9_set_1, eX9_set_2, eX9_set_5, eX9_set_6, eX9_set_9, eX9_set_10, eX9_set_11, eX9_set_14, eX9_set_15, eX9_set_18, eX9_set_21, eX9_set_22, eX9_set_23, eX9_set_24, eX9_set_25, eX9_set_28, eX9_set_31, eX9_set_32, eX9_set_33, eX9_set_34, eX9_set_37, eX9_set_40, eX9_set_42, eX9_set_43, eX9_set_44, eX9_set_47, eX9_set_48, eX9_set_51, eX9_set_52, eX9_set_52x, eX9_set_52y, eX9_set_53, eX9_set_55, eX9_set_56, eX9_set_59, eX9_set_60, eX9_set_61, eX9_set_62, eX9_set_63, eX9_set_66, eX9_set_68, if_pos, if_neg, if_true, if_false, Option.bind_some, Option.toList_some, Option.toList_none, List.cons_append, List.nil_append, e1, e2, e3, Int.toNat_natCast, q]
      rw [← hT]
      simp (disch := omega) only [eX9_set_0, eX9_set_1, eX9_set_2, eX9_set_5, eX9_set_6, eX9_set_9, eX9_set_10, eX9_set_11, eX9_set_14, eX9_set_15, eX9_set_18, eX9_set_21, eX9_set_22, eX9_set_23, eX9_set_24, eX9_set_25, eX9_set_28, eX9_set_31, eX9_set_32, eX9_set_33, eX9_set_34, eX9_set_37, eX9_set_40, eX9_set_42, eX9_set_43, eX9_set_44, eX9_set_47, eX9_set_48, eX9_set_51, eX9_set_52, eX9_set_52x, eX9_set_52y, eX9_set_53, eX9_set_55, eX9_set_56, eX9_set_59, eX9_set_60, eX9_set_61, eX9_set_62, eX9_set_63, eX9_set_66, eX9_set_68, if_pos, if_neg, if_true, if_false, Option.bind_some, Option.toList_some, Option.toList_none, List.cons_append, List.nil_append, e4]
    · rw [show hiS (j : Int) = 299 by unfold hiS; rw [if_neg (by omega), if_neg (by omega)]] at e2
      simp (disch := omega) only [eX9_set_0, eX9_set_1, eX9_set_2, eX9_set_5, eX9_set_6, eX9_set_9, eX9_set_10, eX9_set_11, eX9_set_14, eX9_set_15, eX9_set_18, eX9_set_21, eX9_set_22, eX9_set_23, eX9_set_24, eX9_set_25, eX9_set_28, eX9_set_31, eX9_set_32, eX9_set_33, eX9_set_34, eX9_set_37, eX9_set_40, eX9_set_42, eX9_set_43, eX9_set_44, eX9_set_47, eX9_set_48, eX9_set_51, eX9_set_52, eX9_set_52x, eX9_set_52y, eX9_set_53, eX9_set_55, eX9_set_56, eX9_set_59, eX9_set_60, eX9_set_61, eX9_set_62, eX9_set_63, eX9_set_66, eX9_set_68, if_pos, if_neg, if_true, if_false, Option.bind_some, Option.toList_some, Option.toList_none, List.cons_append, List.nil_append, e1, e2, e3, Int.toNat_natCast, q]
      rw [← hT]
      simp (disch := omega) only [eX9_set_0, eX9_set_1, eX9_set_2, eX9_set_5, eX9_set_6, eX9_set_9, eX9_set_10, eX9_set_11, eX9_set_14, eX9_set_15, eX9_set_18, eX9_set_21, eX9_set_22, eX9_set_23, eX9_set_24, eX9_set_25, eX9_set_28, eX9_set_31, eX9_set_32, eX9_set_33, eX9_set_34, eX9_set_37, eX9_set_40, eX9_set_42, eX9_set_43, eX9_set_44, eX9_set_47, eX9_set_48, eX9_set_51, eX9_set_52, eX9_set_52x, eX9_set_52y, eX9_set_53, eX9_set_55, eX9_set_56, eX9_set_59, eX9_set_60, eX9_set_61, eX9_set_62, eX9_set_63, eX9_set_66, eX9_set_68, if_pos, if_neg, if_true, if_false, Option.bind_some, Option.toList_some, Option.toList_none, List.cons_append, List.nil_append, e4]
end MO12
