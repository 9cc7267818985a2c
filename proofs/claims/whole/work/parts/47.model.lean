/-! the reference: laying a stone, slipping -/
section MO9
variable {S : MM}
theorem z_tryStone {w key t : Int} (hw : rng w) (hk : rng key) (ht : rng t) (hR : RB (RA (S 594))) (h40 : ∀ u : Nat, u < 3 → cnt (RA (S 594) u) 300 ≤ 40) : fX9_tryStone [vR 593, vI w, vI key, vI t] S = some (some (vI (if errLay (S 594) w key t = 0 then RA (S 594) w.toNat key.toNat else errLay (S 594) w key t)), S) := by
  have e0 := z_isWalker (S := S) hw
  have e1 := z_isKey (S := S) hk
  have e2 := z_in (S := S) (a := t) (b := 1) (c := 9) ht ⟨by omega, by omega⟩ ⟨by omega, by omega⟩
  unfold errLay
  rw [uX9_tryStone]
  by_cases q : 0 ≤ w ∧ w ≤ 2
  · rw [if_pos q] at e0
    have q' : ¬ ¬ (0 ≤ w ∧ w ≤ 2) := fun y => y q
    simp only [if_neg q']
    by_cases q1 : 0 ≤ key ∧ key ≤ 299
    · rw [if_pos q1] at e1
      by_cases q2 : 1 ≤ t ∧ t ≤ 9
      · rw [if_pos q2] at e2
        have q3 : ¬ (¬ (0 ≤ key ∧ key ≤ 299) ∨ ¬ (1 ≤ t ∧ t ≤ 9)) := fun y => by rcases y with y | y; exact y q1; exact y q2
        simp only [if_neg q3]
        obtain ⟨u, hu⟩ : ∃ u : Nat, w = (u : Int) := ⟨w.toNat, by omega⟩
        obtain ⟨k, hkk⟩ : ∃ k : Nat, key = (k : Int) := ⟨key.toNat, by omega⟩
        subst hu
        subst hkk
        have hu3 : u < 3 := by omega
        have hk3 : k < 300 := by omega
        have e3 := z_repeats (S := S) hu3 hk3
        have e4 := z_stonesOf (S := S) hu3 hR
        have hb := hR u k hu3 hk3
        have hc := h40 u hu3
        rw [Int.toNat_natCast, Int.toNat_natCast]
        by_cases z : 0 < RA (S 594) u k
        · have z1 : cnt (RA (S 594) u) 300 < 40 ∨ 0 < RA (S 594) u k := Or.inr z
          simp only [if_pos z1, if_true]
          simp (disch := omega) only [eX9_tryStone_0, eX9_tryStone_1, eX9_tryStone_4, eX9_tryStone_7, eX9_tryStone_8, eX9_tryStone_9, eX9_tryStone_10, eX9_tryStone_13, eX9_tryStone_16, eX9_tryStone_17, eX9_tryStone_18, eX9_tryStone_20, eX9_tryStone_23, eX9_tryStone_26, eX9_tryStone_28, eX9_tryStone_29, eX9_tryStone_30, eX9_tryStone_31, eX9_tryStone_32, eX9_tryStone_35, eX9_tryStone_38, eX9_tryStone_39, eX9_tryStone_40, eX9_tryStone_43, eX9_tryStone_45, eX9_tryStone_48, eX9_tryStone_50, eX9_tryStone_53, eX9_tryStone_54, eX9_tryStone_55, eX9_tryStone_56, eX9_tryStone_59, if_pos, if_neg, if_true, if_false, Option.bind_some, Option.toList_some, Option.toList_none, List.cons_append, List.nil_append, e0, e1, e2, e3, e4]
        · by_cases z2 : cnt (RA (S 594) u) 300 < 40
          · have z1 : cnt (RA (S 594) u) 300 < 40 ∨ 0 < RA (S 594) u k := Or.inl z2
            simp only [if_pos z1, if_true]
            simp (disch := omega) only [eX9_tryStone_0, eX9_tryStone_1, eX9_tryStone_4, eX9_tryStone_7, eX9_tryStone_8, eX9_tryStone_9, eX9_tryStone_10, eX9_tryStone_13, eX9_tryStone_16, eX9_tryStone_17, eX9_tryStone_18, eX9_tryStone_20, eX9_tryStone_23, eX9_tryStone_26, eX9_tryStone_28, eX9_tryStone_29, eX9_tryStone_30, eX9_tryStone_31, eX9_tryStone_32, eX9_tryStone_35, eX9_tryStone_38, eX9_tryStone_39, eX9_tryStone_40, eX9_tryStone_43, eX9_tryStone_45, eX9_tryStone_48, eX9_tryStone_50, eX9_tryStone_53, eX9_tryStone_54, eX9_tryStone_55, eX9_tryStone_56, eX9_tryStone_59, if_pos, if_neg, if_true, if_false, Option.bind_some, Option.toList_some, Option.toList_none, List.cons_append, List.nil_append, e0, e1, e2, e3, e4]
          · have z1 : ¬ (cnt (RA (S 594) u) 300 < 40 ∨ 0 < RA (S 594) u k) := fun y => y.elim z2 z
            simp only [if_neg z1]
            rw [if_neg (by decide)]
            simp (disch := omega) only [eX9_tryStone_0, eX9_tryStone_1, eX9_tryStone_4, eX9_tryStone_7, eX9_tryStone_8, eX9_tryStone_9, eX9_tryStone_10, eX9_tryStone_13, eX9_tryStone_16, eX9_tryStone_17, eX9_tryStone_18, eX9_tryStone_20, eX9_tryStone_23, eX9_tryStone_26, eX9_tryStone_28, eX9_tryStone_29, eX9_tryStone_30, eX9_tryStone_31, eX9_tryStone_32, eX9_tryStone_35, eX9_tryStone_38, eX9_tryStone_39, eX9_tryStone_40, eX9_tryStone_43, eX9_tryStone_45, eX9_tryStone_48, eX9_tryStone_50, eX9_tryStone_53, eX9_tryStone_54, eX9_tryStone_55, eX9_tryStone_56, eX9_tryStone_59, if_pos, if_neg, if_true, if_false, Option.bind_some, Option.toList_some, Option.toList_none, List.cons_append, List.nil_append, e0, e1, e2, e3, e4]
      · rw [if_neg q2] at e2
        have q3 : ¬ (0 ≤ key ∧ key ≤ 299) ∨ ¬ (1 ≤ t ∧ t ≤ 9) := Or.inr q2
        simp only [if_pos q3]
        rw [if_neg (by decide)]
        simp (disch := omega) only [eX9_tryStone_0, eX9_tryStone_1, eX9_tryStone_4, eX9_tryStone_7, eX9_tryStone_8, eX9_tryStone_9, eX9_tryStone_10, eX9_tryStone_13, eX9_tryStone_16, eX9_tryStone_17, eX9_tryStone_18, eX9_tryStone_20, eX9_tryStone_23, eX9_tryStone_26, eX9_tryStone_28, eX9_tryStone_29, eX9_tryStone_30, eX9_tryStone_31, eX9_tryStone_32, eX9_tryStone_35, eX9_tryStone_38, eX9_tryStone_39, eX9_tryStone_40, eX9_tryStone_43, eX9_tryStone_45, eX9_tryStone_48, eX9_tryStone_50, eX9_tryStone_53, eX9_tryStone_54, eX9_tryStone_55, eX9_tryStone_56, eX9_tryStone_59, if_pos, if_neg, if_true, if_false, Option.bind_some, Option.toList_some, Option.toList_none, List.cons_append, List.nil_append, e0, e1, e2]
    · rw [if_neg q1] at e1
      have q3 : ¬ (0 ≤ key ∧ key ≤ 299) ∨ ¬ (1 ≤ t ∧ t ≤ 9) := Or.inl q1
      simp only [if_pos q3]
      rw [if_neg (by decide)]
      simp (disch := omega) only [eX9_tryStone_0, eX9_tryStone_1, eX9_tryStone_4, eX9_tryStone_7, eX9_tryStone_8, eX9_tryStone_9, eX9_tryStone_10, eX9_tryStone_13, eX9_tryStone_16, eX9_tryStone_17, eX9_tryStone_18, eX9_tryStone_20, eX9_tryStone_23, eX9_tryStone_26, eX9_tryStone_28, eX9_tryStone_29, eX9_tryStone_30, eX9_tryStone_31, eX9_tryStone_32, eX9_tryStone_35, eX9_tryStone_38, eX9_tryStone_39, eX9_tryStone_40, eX9_tryStone_43, eX9_tryStone_45, eX9_tryStone_48, eX9_tryStone_50, eX9_tryStone_53, eX9_tryStone_54, eX9_tryStone_55, eX9_tryStone_56, eX9_tryStone_59, if_pos, if_neg, if_true, if_false, Option.bind_some, Option.toList_some, Option.toList_none, List.cons_append, List.nil_append, e0, e1]
  · rw [if_neg q] at e0
    simp only [if_pos q]
    rw [if_neg (by decide)]
    simp (disch := omega) only [eX9_tryStone_0, eX9_tryStone_1, eX9_tryStone_4, eX9_tryStone_7, eX9_tryStone_8, eX9_tryStone_9, eX9_tryStone_10, eX9_tryStone_13, eX9_tryStone_16, eX9_tryStone_17, eX9_tryStone_18, eX9_tryStone_20, eX9_tryStone_23, eX9_tryStone_26, eX9_tryStone_28, eX9_tryStone_29, eX9_tryStone_30, eX9_tryStone_31, eX9_tryStone_32, eX9_tryStone_35, eX9_tryStone_38, eX9_tryStone_39, eX9_tryStone_40, eX9_tryStone_43, eX9_tryStone_45, eX9_tryStone_48, eX9_tryStone_50, eX9_tryStone_53, eX9_tryStone_54, eX9_tryStone_55, eX9_tryStone_56, eX9_tryStone_59, if_pos, if_neg, if_true, if_false, Option.bind_some, Option.toList_some, Option.toList_none, List.cons_append, List.nil_append, e0]
end MO9
