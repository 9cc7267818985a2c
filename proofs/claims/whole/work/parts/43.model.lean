/-! the reference: keeping -/
section MO5
variable {S : MM}
theorem l_keep {pl : Nat} (hp : pl < 6) {q : Int} (hq : 0 ≤ q ∧ q ≤ 10) : ∀ (f k : Nat) (T : MM), k + f = 4825 → T 594 = S 594 → (∀ y : Nat, T 595 y = if 4825 * pl ≤ y ∧ y < 4825 * pl + k then S 594 (y - 4825 * pl) else S 595 y) → (∀ a, a ≠ 595 → T a = S a) → S 593 3 = q → ∃ S', rn xX9_keep (47, [some (vR 593), some (vI (pl : Int)), some (vI k)], [], T) = some (none, S') ∧ (∀ y : Nat, S' 595 y = if 4825 * pl ≤ y ∧ y < 4825 * pl + 4825 then S 594 (y - 4825 * pl) else S 595 y) ∧ S' 593 = up (S 593) 3 (q + 1) ∧ (∀ a, a ≠ 595 → a ≠ 593 → S' a = S a) := by
  obtain ⟨k0, a0, k1, a1, -⟩ := mk
  intro f
  induction f with
  | zero =>
    intro k T hk h4 h5 ha h3
    have e : k = 4825 := by omega
    subst e
    have k9 := mk.2.2.2.2.2.2.2.2.2.2.2.2.2.2.2.2
    have t3 : T 593 3 = q := by rw [ha 593 (by omega)]; exact h3
    refine ⟨updM T 593 3 (q + 1), ?_, fun y => by rw [updM_ne (by omega)]; exact h5 y, by rw [updM_eq, ha 593 (by omega)], fun a y1 y2 => by rw [updM_ne y2]; exact ha a y1⟩
    rw [eX9_keep_47]
    simp (disch := omega) only [eX9_keep_0, eX9_keep_1, eX9_keep_4, eX9_keep_6, eX9_keep_9, eX9_keep_10, eX9_keep_11, eX9_keep_14, eX9_keep_15, eX9_keep_16, eX9_keep_18, eX9_keep_19, eX9_keep_22, eX9_keep_23, eX9_keep_24, eX9_keep_27, eX9_keep_28, eX9_keep_29, eX9_keep_32, eX9_keep_33, eX9_keep_36, eX9_keep_37, eX9_keep_40, eX9_keep_41, eX9_keep_43, eX9_keep_44, eX9_keep_45, eX9_keep_46, eX9_keep_48, eX9_keep_51, eX9_keep_54, eX9_keep_55, eX9_keep_58, eX9_keep_61, eX9_keep_62, eX9_keep_63, eX9_keep_64, eX9_keep_65, eX9_keep_66, eX9_keep_69, eX9_keep_70, eX9_keep_70x, eX9_keep_70y, eX9_keep_71, eX9_keep_72, eX9_keep_75, eX9_keep_78, eX9_keep_79, eX9_keep_80, eX9_keep_83, eX9_keep_84, eX9_keep_85, eX9_keep_88, if_pos, if_neg, if_true, if_false, Option.bind_some, Option.toList_some, Option.toList_none, List.cons_append, List.nil_append, t3]
  | succ f ih =>
    intro k T hk h4 h5 ha h3
    have e1 : ((4825 : Int) * (pl : Int) + (k : Int)).toNat = 4825 * pl + k := by omega
    obtain ⟨S', w1, w2⟩ := ih (k + 1) (updM T 595 (4825 * pl + k) (T 594 k)) (by omega) (by rw [updM_ne (by omega)]; exact h4) (fun y => by
      rw [updM_eq]
      by_cases c : y = 4825 * pl + k
      · rw [c, up_eq, if_pos (by omega), h4, show 4825 * pl + k - 4825 * pl = k by omega]
      · rw [up_ne c, h5 y]
        by_cases d : 4825 * pl ≤ y ∧ y < 4825 * pl + k
        · rw [if_pos d, if_pos (by omega)]
        · rw [if_neg d, if_neg (by omega)]) (fun a y1 => by rw [updM_ne y1]; exact ha a y1) h3
    refine ⟨S', ?_, w2⟩
    rw [← w1, eX9_keep_47]
    simp (disch := omega) only [eX9_keep_0, eX9_keep_1, eX9_keep_4, eX9_keep_6, eX9_keep_9, eX9_keep_10, eX9_keep_11, eX9_keep_14, eX9_keep_15, eX9_keep_16, eX9_keep_18, eX9_keep_19, eX9_keep_22, eX9_keep_23, eX9_keep_24, eX9_keep_27, eX9_keep_28, eX9_keep_29, eX9_keep_32, eX9_keep_33, eX9_keep_36, eX9_keep_37, eX9_keep_40, eX9_keep_41, eX9_keep_43, eX9_keep_44, eX9_keep_45, eX9_keep_46, eX9_keep_48, eX9_keep_51, eX9_keep_54, eX9_keep_55, eX9_keep_58, eX9_keep_61, eX9_keep_62, eX9_keep_63, eX9_keep_64, eX9_keep_65, eX9_keep_66, eX9_keep_69, eX9_keep_70, eX9_keep_70x, eX9_keep_70y, eX9_keep_71, eX9_keep_72, eX9_keep_75, eX9_keep_78, eX9_keep_79, eX9_keep_80, eX9_keep_83, eX9_keep_84, eX9_keep_85, eX9_keep_88, if_pos, if_neg, if_true, if_false, Option.bind_some, Option.toList_some, Option.toList_none, List.cons_append, List.nil_append, e1, Int.toNat_natCast]
    rw [show ((k : Int) + 1) = ((k + 1 : Nat) : Int) by omega]
/-- what keep does: the place, and what lies there -/
theorem z_keep {pf pm : Nat} (h2 : S 593 2 = (pf : Int)) (h3 : S 593 3 = (pm : Int)) (hf : pf < 6) (hm : pm ≤ 6) : ∃ S', fX9_keep [vR 593] S = some (none, S') ∧ (∀ y : Nat, S' 595 y = if 4825 * ((pf + pm) % 6) ≤ y ∧ y < 4825 * ((pf + pm) % 6) + 4825 then S 594 (y - 4825 * ((pf + pm) % 6)) else S 595 y) ∧ S' 593 2 = (if pm = 6 then (((pf + 1) % 6 : Nat) : Int) else (pf : Int)) ∧ S' 593 3 = (if pm = 6 then 6 else (pm : Int) + 1) ∧ (∀ j, j ≠ 2 → j ≠ 3 → S' 593 j = S 593 j) ∧ (∀ a, a ≠ 595 → a ≠ 593 → S' a = S a) := by
  have k9 := mk.2.2.2.2.2.2.2.2.2.2.2.2.2.2.2.2
  have hlt : (pf + pm) % 6 < 6 := Nat.mod_lt _ (by omega)
  rw [uX9_keep]
  by_cases c : pm = 6
  · have e1 : ((pf : Int) + 1) % 6 = (((pf + 1) % 6 : Nat) : Int) := by omega
    have q2 : updM S 593 2 (((pf + 1) % 6 : Nat) : Int) 593 3 = (pm : Int) := by rw [updM_eq, up_ne (by omega)]; exact h3
    obtain ⟨T, hT⟩ : ∃ T, T = updM (updM S 593 2 (((pf + 1) % 6 : Nat) : Int)) 593 3 ((pm : Int) - 1) := ⟨_, rfl⟩
    have t2 : T 593 2 = (((pf + 1) % 6 : Nat) : Int) := by rw [hT, updM_eq, up_ne (by omega), updM_eq, up_eq]
    have t3 : T 593 3 = (pm : Int) - 1 := by rw [hT, updM_eq, up_eq]
    have tj : ∀ j, j ≠ 2 → j ≠ 3 → T 593 j = S 593 j := fun j j2 j3 => by rw [hT, updM_eq, up_ne j3, updM_eq, up_ne j2]
    have ta : ∀ a, a ≠ 593 → T a = S a := fun a ha => by rw [hT, updM_ne ha, updM_ne ha]
    have e2 : ((((pf + 1) % 6 : Nat) : Int) + ((pm : Int) - 1)) % 6 = (((pf + pm) % 6 : Nat) : Int) := by omega
    obtain ⟨S', w1, w2, w3, w4⟩ := l_keep (S := T) (q := (pm : Int) - 1) hlt (by omega) 4825 0 T rfl rfl (fun y => by rw [if_neg (by omega)]) (fun _ _ => rfl) t3
    refine ⟨S', ?_, fun y => by rw [w2 y, ta 594 (by omega), ta 595 (by omega)], by rw [w3, up_ne (by omega), t2, if_pos c], by rw [w3, up_eq, if_pos c]; omega, fun j j2 j3 => by rw [w3, up_ne j3, tj j j2 j3], fun a y1 y2 => by rw [w4 a y1 y2, ta a y2]⟩
    have hm6 : (pm : Int) = 6 := by omega
    rw [← w1]
    simp (disch := omega) only [eX9_keep_0, eX9_keep_1, eX9_keep_4, eX9_keep_6, eX9_keep_9, eX9_keep_10, eX9_keep_11, eX9_keep_14, eX9_keep_15, eX9_keep_16, eX9_keep_18, eX9_keep_19, eX9_keep_22, eX9_keep_23, eX9_keep_24, eX9_keep_27, eX9_keep_28, eX9_keep_29, eX9_keep_32, eX9_keep_33, eX9_keep_36, eX9_keep_37, eX9_keep_40, eX9_keep_41, eX9_keep_43, eX9_keep_44, eX9_keep_45, eX9_keep_46, eX9_keep_48, eX9_keep_51, eX9_keep_54, eX9_keep_55, eX9_keep_58, eX9_keep_61, eX9_keep_62, eX9_keep_63, eX9_keep_64, eX9_keep_65, eX9_keep_66, eX9_keep_69, eX9_keep_70, eX9_keep_70x, eX9_keep_70y, eX9_keep_71, eX9_keep_72, eX9_keep_75, eX9_keep_78, eX9_keep_79, eX9_keep_80, eX9_keep_83, eX9_keep_84, eX9_keep_85, eX9_keep_88, if_pos, if_neg, if_true, if_false, Option.bind_some, Option.toList_some, Option.toList_none, List.cons_append, List.nil_append, h2, h3, e1, q2]
    rw [← hT]
    simp (disch := omega) only [eX9_keep_0, eX9_keep_1, eX9_keep_4, eX9_keep_6, eX9_keep_9, eX9_keep_10, eX9_keep_11, eX9_keep_14, eX9_keep_15, eX9_keep_16, eX9_keep_18, eX9_keep_19, eX9_keep_22, eX9_keep_23, eX9_keep_24, eX9_keep_27, eX9_keep_28, eX9_keep_29, eX9_keep_32, eX9_keep_33, eX9_keep_36, eX9_keep_37, eX9_keep_40, eX9_keep_41, eX9_keep_43, eX9_keep_44, eX9_keep_45, eX9_keep_46, eX9_keep_48, eX9_keep_51, eX9_keep_54, eX9_keep_55, eX9_keep_58, eX9_keep_61, eX9_keep_62, eX9_keep_63, eX9_keep_64, eX9_keep_65, eX9_keep_66, eX9_keep_69, eX9_keep_70, eX9_keep_70x, eX9_keep_70y, eX9_keep_71, eX9_keep_72, eX9_keep_75, eX9_keep_78, eX9_keep_79, eX9_keep_80, eX9_keep_83, eX9_keep_84, eX9_keep_85, eX9_keep_88, if_pos, if_neg, if_true, if_false, Option.bind_some, Option.toList_some, Option.toList_none, List.cons_append, List.nil_append, t2, t3, e2]
    rfl
  · have e2 : ((pf : Int) + (pm : Int)) % 6 = (((pf + pm) % 6 : Nat) : Int) := by omega
    obtain ⟨S', w1, w2, w3, w4⟩ := l_keep (S := S) (q := (pm : Int)) hlt (by omega) 4825 0 S rfl rfl (fun y => by rw [if_neg (by omega)]) (fun _ _ => rfl) h3
    refine ⟨S', ?_, w2, by rw [w3, up_ne (by omega), h2, if_neg c], by rw [w3, up_eq, if_neg c], fun j j2 j3 => by rw [w3, up_ne j3], w4⟩
    rw [← w1]
    simp (disch := omega) only [eX9_keep_0, eX9_keep_1, eX9_keep_4, eX9_keep_6, eX9_keep_9, eX9_keep_10, eX9_keep_11, eX9_keep_14, eX9_keep_15, eX9_keep_16, eX9_keep_18, eX9_keep_19, eX9_keep_22, eX9_keep_23, eX9_keep_24, eX9_keep_27, eX9_keep_28, eX9_keep_29, eX9_keep_32, eX9_keep_33, eX9_keep_36, eX9_keep_37, eX9_keep_40, eX9_keep_41, eX9_keep_43, eX9_keep_44, eX9_keep_45, eX9_keep_46, eX9_keep_48, eX9_keep_51, eX9_keep_54, eX9_keep_55, eX9_keep_58, eX9_keep_61, eX9_keep_62, eX9_keep_63, eX9_keep_64, eX9_keep_65, eX9_keep_66, eX9_keep_69, eX9_keep_70, eX9_keep_70x, eX9_keep_70y, eX9_keep_71, eX9_keep_72, eX9_keep_75, eX9_keep_78, eX9_keep_79, eX9_keep_80, eX9_keep_83, eX9_keep_84, eX9_keep_85, eX9_keep_88, if_pos, if_neg, if_true, if_false, Option.bind_some, Option.toList_some, Option.toList_none, List.cons_append, List.nil_append, h2, h3, e2]
    rfl
end MO5
