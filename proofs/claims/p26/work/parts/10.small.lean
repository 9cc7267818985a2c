/-! small ones -/
theorem s_isBetween {a b c : Int} {S : MM} (ha : rng a) (hb : rng b) (hc : rng c) : fX8_isBetween [vI a, vI b, vI c] S = some (some (vI (if b ≤ a ∧ a ≤ c then 1 else 0)), S) := by
  obtain ⟨h1, h2⟩ := ha
  obtain ⟨h3, h4⟩ := hb
  obtain ⟨h5, h6⟩ := hc
  rw [uX8_isBetween]
  simp (disch := omega) only [eX8_isBetween_0, eX8_isBetween_1, eX8_isBetween_2, eX8_isBetween_5, eX8_isBetween_6, eX8_isBetween_7, eX8_isBetween_10, eX8_isBetween_11, eX8_isBetween_14, eX8_isBetween_15, if_pos, if_neg, if_true, if_false, Option.bind_some, Option.toList_some, Option.toList_none, List.cons_append, List.nil_append]
  by_cases c1 : a < b
  · rw [if_pos c1, if_neg (by omega)]
  · rw [if_neg c1]
    by_cases c2 : c < a
    · rw [if_pos c2, if_neg (by omega)]
    · rw [if_neg c2, if_pos (by omega)]
