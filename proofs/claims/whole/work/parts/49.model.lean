/-! the reference: begin and set -/
section MO11
variable {S : MM}
/-- what keep leaves in the past's row and in the object's numbers -/
def Kept (S S' : MM) (pf pm : Nat) : Prop := (∀ y : Nat, S' 595 y = if 4825 * ((pf + pm) % 6) ≤ y ∧ y < 4825 * ((pf + pm) % 6) + 4825 then S 594 (y - 4825 * ((pf + pm) % 6)) else S 595 y) ∧ S' 593 2 = (if pm = 6 then (((pf + 1) % 6 : Nat) : Int) else (pf : Int)) ∧ S' 593 3 = (if pm = 6 then 6 else (pm : Int) + 1) ∧ (∀ j, j ≠ 2 → j ≠ 3 → S' 593 j = S 593 j)
theorem Kept.on {S1 S2 : MM} {pf pm : Nat} (h : Kept S S1 pf pm) (h5 : S2 595 = S1 595) (h3 : S2 593 = S1 593) : Kept S S2 pf pm := by
  obtain ⟨g1, g2, g3, g4⟩ := h
  exact ⟨fun y => by rw [h5]; exact g1 y, by rw [h3]; exact g2, by rw [h3]; exact g3, fun j a b => by rw [h3]; exact g4 j a b⟩
theorem z_begin {pf pm : Nat} (h2 : S 593 2 = (pf : Int)) (h3 : S 593 3 = (pm : Int)) (hf : pf < 6) (hm : pm ≤ 6) (hA : StgR (S 594)) (hR : RB (RA (S 594))) : ∃ S', fX9_begin [vR 593] S = some (some (vI (mBegin (S 594) 4 - 1)), S') ∧ S' 594 = mBegin (S 594) ∧ Kept S S' pf pm ∧ (∀ a, a ≠ 594 → a ≠ 595 → a ≠ 593 → S' a = S a) := by
  obtain ⟨k0, a0, -⟩ := mk
  obtain ⟨S1, e1, g1, g2, g3, g4, g5⟩ := z_keep h2 h3 hf hm
  have h594 : S1 594 = S 594 := g5 594 (by omega) (by omega)
  obtain ⟨S2, e2, u1, u2⟩ := z_beginRun (S := S1) (by rw [h594]; exact hA) (by rw [h594]; exact hR)
  rw [h594] at u1
  have n4 : (4 : Int).toNat = 4 := rfl
  have hK : Kept S S1 pf pm := ⟨g1, g2, g3, g4⟩
  refine ⟨S2, ?_, u1, hK.on (u2 595 (by omega)) (u2 593 (by omega)), fun a a1 a2 a3 => by rw [u2 a a1, g5 a a2 a3]⟩
  rw [uX9_begin]
  simp (disch := omega) only [eX9_begin_0, eX9_begin_1, eX9_begin_4, eX9_begin_5, eX9_begin_8, eX9_begin_9, eX9_begin_12, eX9_begin_13, eX9_begin_13x, eX9_begin_13y, eX9_begin_14, eX9_begin_15, eX9_begin_16, if_pos, if_neg, if_true, if_false, Option.bind_some, Option.toList_some, Option.toList_none, List.cons_append, List.nil_append, e1, e2, n4]
  rw [u1]
theorem z_setX {j z : Int} (hj : rng j) (hz : rng z) (hn : ¬ ((0 ≤ j ∧ j ≤ 3) ∧ 0 ≤ z ∧ z ≤ hiS j)) : fX9_set [vR 593, vI j, vI z] S = some (some (vI (-2)), S) := by
  have e1 := z_in (S := S) (a := j) (b := 0) (c := 3) hj ⟨by omega, by omega⟩ ⟨by omega, by omega⟩
  have hb := hiS_b j
  have e2 := z_in (S := S) (a := z) (b := 0) (c := hiS j) hz ⟨by omega, by omega⟩ ⟨by omega, by omega⟩
  obtain ⟨j1, j2⟩ := id hj
  rw [uX9_set]
  by_cases c : 0 ≤ j ∧ j ≤ 3
  · rw [if_pos c] at e1
    rw [if_neg (fun y => hn ⟨c, y⟩)] at e2
    by_cases d2 : j = 2
    · rw [show hiS j = 2 by unfold hiS; rw [if_pos d2]] at e2
      simp (disch := omega) only [eX9_set_0, eX9_set_1, eX9_set_2, eX9_set_5, eX9_set_6, eX9_set_9, eX9_set_10, eX9_set_11, eX9_set_14, eX9_set_15, eX9_set_18, eX9_set_21, eX9_set_22, eX9_set_23, eX9_set_24, eX9_set_25, eX9_set_28, eX9_set_31, eX9_set_32, eX9_set_33, eX9_set_34, eX9_set_37, eX9_set_40, eX9_set_42, eX9_set_43, eX9_set_44, eX9_set_47, eX9_set_48, eX9_set_51, eX9_set_52, eX9_set_52x, eX9_set_52y, eX9_set_53, eX9_set_55, eX9_set_56, eX9_set_59, eX9_set_60, eX9_set_61, eX9_set_62, eX9_set_63, eX9_set_66, eX9_set_68, if_pos, if_neg, if_true, if_false, Option.bind_some, Option.toList_some, Option.toList_none, List.cons_append, List.nil_append, e1, e2]
    · by_cases d3 : j = 3
      · rw [show hiS j = 5 by unfold hiS; rw [if_neg d2, if_pos d3]] at e2
        simp (disch := omega) only [eX9_set_0, eX9_set_1, eX9_set_2, eX9_set_5, eX9_set_6, eX9_set_9, eX9_set_10, eX9_set_11, eX9_set_14, eX9_set_15, eX9_set_18, eX9_set_21, eX9_set_22, eX9_set_23, eX9_set_24, eX9_set_25, eX9_set_28, eX9_set_31, eX9_set_32, eX9_set_33, eX9_set_34, eX9_set_37, eX9_set_40, eX9_set_42, eX9_set_43, eX9_set_44, eX9_set_47, eX9_set_48, eX9_set_51, eX9_set_52, eX9_set_52x, eX9_set_52y, eX9_set_53, eX9_set_55, eX9_set_56, eX9_set_59, eX9_set_60, eX9_set_61, eX9_set_62, eX9_set_63, eX9_set_66, eX9_set_68, if_pos, if_neg, if_true, if_false, Option.bind_some, Option.toList_some, Option.toList_none, List.cons_append, List.nil_append, e1, e2]
      · rw [show hiS j = 299 by unfold hiS; rw [if_neg d2, if_neg d3]] at e2
        simp (disch := omega) only [eX9_set_0, eX9_set_1, eX9_set_2, eX9_set_5, eX9_set_6, eX9_set_9, eX9_set_10, eX9_set_11, eX9_set_14, eX9_set_15, eX9_set_18, eX9_set_21, eX9_set_22, eX9_set_23, eX9_set_24, eX9_set_25, eX9_set_28, eX9_set_31, eX9_set_32, eX9_set_33, eX9_set_34, eX9_set_37, eX9_set_40, eX9_set_42, eX9_set_43, eX9_set_44, eX9_set_47, eX9_set_48, eX9_set_51, eX9_set_52, eX9_set_52x, eX9_set_52y, eX9_set_53, eX9_set_55, eX9_set_56, eX9_set_59, eX9_set_60, eX9_set_61, eX9_set_62, eX9_set_63, eX9_set_66, eX9_set_68, if_pos, if_neg, if_true, if_false, Option.bind_some, Option.toList_some, Option.toList_none, List.cons_append, List.nil_append, e1, e2]
  · rw [if_neg c] at e1
    by_cases d2 : j = 2
    · omega
    · by_cases d3 : j = 3
      · omega
      · simp (disch := omega) only [eX9_set_0, eX9_set_1, eX9_set_2, eX9_set_5, eX9_set_6, eX9_set_9, eX9_set_10, eX9_set_11, eX9_set_14, eX9_set_15, eX9_set_18, eX9_set_21, eX9_set_22, eX9_set_23, eX9_set_24, eX9_set_25, eX9_set_28, eX9_set_31, eX9_set_32, eX9_set_33, eX9_set_34, eX9_set_37, eX9_set_40, eX9_set_42, eX9_set_43, eX9_set_44, eX9_set_47, eX9_set_48, eX9_set_51, eX9_set_52, eX9_set_52x, eX9_set_52y, eX9_set_53, eX9_set_55, eX9_set_56, eX9_set_59, eX9_set_60, eX9_set_61, eX9_set_62, eX9_set_63, eX9_set_66, eX9_set_68, if_pos, if_neg, if_true, if_false, Option.bind_some, Option.toList_some, Option.toList_none, List.cons_append, List.nil_append, e1]
end MO11
