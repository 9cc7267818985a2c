/-! the reference: aside, back, setting -/
section MO8
variable {S : MM}
theorem l_aside : ∀ (f k : Nat) (T : MM), k + f = 4825 → T 594 = S 594 → (∀ y : Nat, T 598 y = if y < k then S 594 y else S 598 y) → (∀ a, a ≠ 598 → T a = S a) → ∃ S', rn xX9_layAside (2, [some (vR 593), some (vI k)], [], T) = some (none, S') ∧ (∀ y : Nat, S' 598 y = if y < 4825 then S 594 y else S 598 y) ∧ (∀ a, a ≠ 598 → S' a = S a) := by
  obtain ⟨k0, a0, -, -, -, -, -, -, k8, a8, -⟩ := mk
  intro f
  induction f with
  | zero =>
    intro k T hk h4 h5 ha
    have e : k = 4825 := by omega
    subst e
    refine ⟨T, ?_, h5, ha⟩
    rw [eX9_layAside_2]
    simp (disch := omega) only [eX9_layAside_0, eX9_layAside_1, eX9_layAside_3, eX9_layAside_6, eX9_layAside_9, eX9_layAside_10, eX9_layAside_13, eX9_layAside_14, eX9_layAside_15, eX9_layAside_18, eX9_layAside_19, eX9_layAside_19x, eX9_layAside_19y, eX9_layAside_20, eX9_layAside_21, eX9_layAside_24, eX9_layAside_27, if_pos, if_neg, if_true, if_false, Option.bind_some, Option.toList_some, Option.toList_none, List.cons_append, List.nil_append]
  | succ f ih =>
    intro k T hk h4 h5 ha
    obtain ⟨S', w1, w2⟩ := ih (k + 1) (updM T 598 k (T 594 k)) (by omega) (by rw [updM_ne (by omega)]; exact h4) (fun y => by
      rw [updM_eq]
      by_cases c : y = k
      · rw [c, up_eq, if_pos (by omega), h4]
      · rw [up_ne c, h5 y]
        by_cases d : y < k
        · rw [if_pos d, if_pos (by omega)]
        · rw [if_neg d, if_neg (by omega)]) (fun a y1 => by rw [updM_ne y1]; exact ha a y1)
    refine ⟨S', ?_, w2⟩
    rw [← w1, eX9_layAside_2]
    simp (disch := omega) only [eX9_layAside_0, eX9_layAside_1, eX9_layAside_3, eX9_layAside_6, eX9_layAside_9, eX9_layAside_10, eX9_layAside_13, eX9_layAside_14, eX9_layAside_15, eX9_layAside_18, eX9_layAside_19, eX9_layAside_19x, eX9_layAside_19y, eX9_layAside_20, eX9_layAside_21, eX9_layAside_24, eX9_layAside_27, if_pos, if_neg, if_true, if_false, Option.bind_some, Option.toList_some, Option.toList_none, List.cons_append, List.nil_append, Int.toNat_natCast]
    rw [show ((k : Int) + 1) = ((k + 1 : Nat) : Int) by omega]
theorem z_layAside : ∃ S', fX9_layAside [vR 593] S = some (none, S') ∧ (∀ y : Nat, S' 598 y = if y < 4825 then S 594 y else S 598 y) ∧ (∀ a, a ≠ 598 → S' a = S a) := by
  obtain ⟨S', w1, w2⟩ := l_aside (S := S) 4825 0 S rfl rfl (fun y => by rw [if_neg (by omega)]) (fun _ _ => rfl)
  refine ⟨S', ?_, w2⟩
  rw [← w1, uX9_layAside]
  simp (disch := omega) only [eX9_layAside_0, eX9_layAside_1, eX9_layAside_3, eX9_layAside_6, eX9_layAside_9, eX9_layAside_10, eX9_layAside_13, eX9_layAside_14, eX9_layAside_15, eX9_layAside_18, eX9_layAside_19, eX9_layAside_19x, eX9_layAside_19y, eX9_layAside_20, eX9_layAside_21, eX9_layAside_24, eX9_layAside_27, if_pos, if_neg, if_true, if_false, Option.bind_some, Option.toList_some, Option.toList_none, List.cons_append, List.nil_append]
  rfl
theorem l_back : ∀ (f k : Nat) (T : MM), k + f = 4825 → T 598 = S 598 → (∀ y : Nat, T 594 y = if y < k then S 598 y else S 594 y) → (∀ a, a ≠ 594 → T a = S a) → ∃ S', rn xX9_layBack (2, [some (vR 593), some (vI k)], [], T) = some (none, S') ∧ (∀ y : Nat, S' 594 y = if y < 4825 then S 598 y else S 594 y) ∧ (∀ a, a ≠ 594 → S' a = S a) := by
  obtain ⟨k0, a0, -, -, -, -, -, -, k8, a8, -⟩ := mk
  intro f
  induction f with
  | zero =>
    intro k T hk h4 h5 ha
    have e : k = 4825 := by omega
    subst e
    refine ⟨T, ?_, h5, ha⟩
    rw [eX9_layBack_2]
    simp (disch := omega) only [eX9_layBack_0, eX9_layBack_1, eX9_layBack_3, eX9_layBack_6, eX9_layBack_9, eX9_layBack_10, eX9_layBack_13, eX9_layBack_14, eX9_layBack_15, eX9_layBack_18, eX9_layBack_19, eX9_layBack_19x, eX9_layBack_19y, eX9_layBack_20, eX9_layBack_21, eX9_layBack_24, eX9_layBack_27, if_pos, if_neg, if_true, if_false, Option.bind_some, Option.toList_some, Option.toList_none, List.cons_append, List.nil_append]
  | succ f ih =>
    intro k T hk h4 h5 ha
    obtain ⟨S', w1, w2⟩ := ih (k + 1) (updM T 594 k (T 598 k)) (by omega) (by rw [updM_ne (by omega)]; exact h4) (fun y => by
      rw [updM_eq]
      by_cases c : y = k
      · rw [c, up_eq, if_pos (by omega), h4]
      · rw [up_ne c, h5 y]
        by_cases d : y < k
        · rw [if_pos d, if_pos (by omega)]
        · rw [if_neg d, if_neg (by omega)]) (fun a y1 => by rw [updM_ne y1]; exact ha a y1)
    refine ⟨S', ?_, w2⟩
    rw [← w1, eX9_layBack_2]
    simp (disch := omega) only [eX9_layBack_0, eX9_layBack_1, eX9_layBack_3, eX9_layBack_6, eX9_layBack_9, eX9_layBack_10, eX9_layBack_13, eX9_layBack_14, eX9_layBack_15, eX9_layBack_18, eX9_layBack_19, eX9_layBack_19x, eX9_layBack_19y, eX9_layBack_20, eX9_layBack_21, eX9_layBack_24, eX9_layBack_27, if_pos, if_neg, if_true, if_false, Option.bind_some, Option.toList_some, Option.toList_none, List.cons_append, List.nil_append, Int.toNat_natCast]
    rw [show ((k : Int) + 1) = ((k + 1 : Nat) : Int) by omega]
theorem z_layBack : ∃ S', fX9_layBack [vR 593] S = some (none, S') ∧ (∀ y : Nat, S' 594 y = if y < 4825 then S 598 y else S 594 y) ∧ (∀ a, a ≠ 594 → S' a = S a) := by
  obtain ⟨S', w1, w2⟩ := l_back (S := S) 4825 0 S rfl rfl (fun y => by rw [if_neg (by omega)]) (fun _ _ => rfl)
  refine ⟨S', ?_, w2⟩
  rw [← w1, uX9_layBack]
  simp (disch := omega) only [eX9_layBack_0, eX9_layBack_1, eX9_layBack_3, eX9_layBack_6, eX9_layBack_9, eX9_layBack_10, eX9_layBack_13, eX9_layBack_14, eX9_layBack_15, eX9_layBack_18, eX9_layBack_19, eX9_layBack_19x, eX9_layBack_19y, eX9_layBack_20, eX9_layBack_21, eX9_layBack_24, eX9_layBack_27, if_pos, if_neg, if_true, if_false, Option.bind_some, Option.toList_some, Option.toList_none, List.cons_append, List.nil_append]
  rfl
end MO8
