/-! the reference: small methods -/
section MO
variable {S : MM}
set_option maxRecDepth 100000 in
theorem mk : kd 594 = 10 ∧ alen 594 = 4825 ∧ kd 595 = 10 ∧ alen 595 = 28950 ∧ kd 596 = 10 ∧ alen 596 = 9650 ∧ kd 597 = 11 ∧ alen 597 = 2 ∧ kd 598 = 10 ∧ alen 598 = 4825 ∧ kd 599 = 10 ∧ alen 599 = 40 ∧ kd 600 = 10 ∧ alen 600 = 80 ∧ kd 601 = 10 ∧ alen 601 = 252 ∧ kd 593 = 9 := by decide +kernel
theorem z_in {a b c : Int} (ha : rng a) (hb : rng b) (hc : rng c) : fX9_in [vI a, vI b, vI c] S = some (some (vI (if b ≤ a ∧ a ≤ c then 1 else 0)), S) := by
  obtain ⟨h1, h2⟩ := ha
  obtain ⟨h3, h4⟩ := hb
  obtain ⟨h5, h6⟩ := hc
  rw [uX9_in]
  by_cases c1 : b ≤ a
  · by_cases c2 : a ≤ c
    · rw [if_pos ⟨c1, c2⟩]
      simp (disch := omega) only [eX9_in_0, eX9_in_1, eX9_in_2, eX9_in_5, eX9_in_6, eX9_in_7, eX9_in_10, eX9_in_11, eX9_in_14, eX9_in_15, if_pos, if_neg, if_true, if_false, Option.bind_some, Option.toList_some, Option.toList_none, List.cons_append, List.nil_append]
    · rw [if_neg (fun y => c2 y.2)]
      simp (disch := omega) only [eX9_in_0, eX9_in_1, eX9_in_2, eX9_in_5, eX9_in_6, eX9_in_7, eX9_in_10, eX9_in_11, eX9_in_14, eX9_in_15, if_pos, if_neg, if_true, if_false, Option.bind_some, Option.toList_some, Option.toList_none, List.cons_append, List.nil_append]
  · rw [if_neg (fun y => c1 y.1)]
    simp (disch := omega) only [eX9_in_0, eX9_in_1, eX9_in_2, eX9_in_5, eX9_in_6, eX9_in_7, eX9_in_10, eX9_in_11, eX9_in_14, eX9_in_15, if_pos, if_neg, if_true, if_false, Option.bind_some, Option.toList_some, Option.toList_none, List.cons_append, List.nil_append]
theorem z_isWalker {w : Int} (hw : rng w) : fX9_isWalker [vI w] S = some (some (vI (if 0 ≤ w ∧ w ≤ 2 then 1 else 0)), S) := by
  have e := z_in (S := S) (a := w) (b := 0) (c := 2) hw ⟨by omega, by omega⟩ ⟨by omega, by omega⟩
  rw [uX9_isWalker]
  by_cases c : 0 ≤ w ∧ w ≤ 2
  · rw [if_pos c] at e ⊢
    simp (disch := omega) only [eX9_isWalker_0, eX9_isWalker_1, eX9_isWalker_2, eX9_isWalker_3, eX9_isWalker_6, if_pos, if_neg, if_true, if_false, Option.bind_some, Option.toList_some, Option.toList_none, List.cons_append, List.nil_append, e]
  · rw [if_neg c] at e ⊢
    simp (disch := omega) only [eX9_isWalker_0, eX9_isWalker_1, eX9_isWalker_2, eX9_isWalker_3, eX9_isWalker_6, if_pos, if_neg, if_true, if_false, Option.bind_some, Option.toList_some, Option.toList_none, List.cons_append, List.nil_append, e]
theorem z_isKey {w : Int} (hw : rng w) : fX9_isKey [vI w] S = some (some (vI (if 0 ≤ w ∧ w ≤ 299 then 1 else 0)), S) := by
  have e := z_in (S := S) (a := w) (b := 0) (c := 299) hw ⟨by omega, by omega⟩ ⟨by omega, by omega⟩
  rw [uX9_isKey]
  by_cases c : 0 ≤ w ∧ w ≤ 299
  · rw [if_pos c] at e ⊢
    simp (disch := omega) only [eX9_isKey_0, eX9_isKey_1, eX9_isKey_2, eX9_isKey_5, eX9_isKey_8, if_pos, if_neg, if_true, if_false, Option.bind_some, Option.toList_some, Option.toList_none, List.cons_append, List.nil_append, e]
  · rw [if_neg c] at e ⊢
    simp (disch := omega) only [eX9_isKey_0, eX9_isKey_1, eX9_isKey_2, eX9_isKey_5, eX9_isKey_8, if_pos, if_neg, if_true, if_false, Option.bind_some, Option.toList_some, Option.toList_none, List.cons_append, List.nil_append, e]
theorem z_isRange {a b : Int} (ha : rng a) (hb : rng b) : fX9_isRange [vI a, vI b] S = some (some (vI (if (0 ≤ a ∧ a ≤ 299) ∧ a ≤ b ∧ b ≤ 299 then 1 else 0)), S) := by
  have e1 := z_isKey (S := S) ha
  have e2 := z_in (S := S) (a := b) (b := a) (c := 299) hb ha ⟨by omega, by omega⟩
  rw [uX9_isRange]
  by_cases c : 0 ≤ a ∧ a ≤ 299
  · rw [if_pos c] at e1
    by_cases d : a ≤ b ∧ b ≤ 299
    · rw [if_pos d] at e2
      rw [if_pos ⟨c, d⟩]
      simp (disch := omega) only [eX9_isRange_0, eX9_isRange_1, eX9_isRange_4, eX9_isRange_7, eX9_isRange_8, eX9_isRange_9, eX9_isRange_12, eX9_isRange_15, eX9_isRange_18, eX9_isRange_19, eX9_isRange_22, eX9_isRange_23, if_pos, if_neg, if_true, if_false, Option.bind_some, Option.toList_some, Option.toList_none, List.cons_append, List.nil_append, e1, e2]
    · rw [if_neg d] at e2
      rw [if_neg (fun y => d y.2)]
      simp (disch := omega) only [eX9_isRange_0, eX9_isRange_1, eX9_isRange_4, eX9_isRange_7, eX9_isRange_8, eX9_isRange_9, eX9_isRange_12, eX9_isRange_15, eX9_isRange_18, eX9_isRange_19, eX9_isRange_22, eX9_isRange_23, if_pos, if_neg, if_true, if_false, Option.bind_some, Option.toList_some, Option.toList_none, List.cons_append, List.nil_append, e1, e2]
  · rw [if_neg c] at e1
    rw [if_neg (fun y => c y.1)]
    simp (disch := omega) only [eX9_isRange_0, eX9_isRange_1, eX9_isRange_4, eX9_isRange_7, eX9_isRange_8, eX9_isRange_9, eX9_isRange_12, eX9_isRange_15, eX9_isRange_18, eX9_isRange_19, eX9_isRange_22, eX9_isRange_23, if_pos, if_neg, if_true, if_false, Option.bind_some, Option.toList_some, Option.toList_none, List.cons_append, List.nil_append, e1]
theorem z_repeats {w k : Nat} (hw : w < 3) (hk : k < 300) : fX9_repeats [vR 593, vI (w : Int), vI (k : Int)] S = some (some (vI (RA (S 594) w k)), S) := by
  obtain ⟨k0, a0, -⟩ := mk
  have e : ((25 : Int) + 300 * (w : Int) + (k : Int)).toNat = 25 + 300 * w + k := by omega
  rw [uX9_repeats]
  simp (disch := omega) only [eX9_repeats_0, eX9_repeats_1, eX9_repeats_4, eX9_repeats_6, eX9_repeats_9, eX9_repeats_10, eX9_repeats_11, eX9_repeats_12, eX9_repeats_13, eX9_repeats_14, eX9_repeats_14x, eX9_repeats_14y, eX9_repeats_15, if_pos, if_neg, if_true, if_false, Option.bind_some, Option.toList_some, Option.toList_none, List.cons_append, List.nil_append, e]
  rfl
theorem z_lay {w k : Nat} {t : Int} (hw : w < 3) (hk : k < 300) : fX9_lay [vR 593, vI (w : Int), vI (k : Int), vI t] S = some (none, updM S 594 (25 + 300 * w + k) t) := by
  obtain ⟨k0, a0, -⟩ := mk
  have e : ((25 : Int) + 300 * (w : Int) + (k : Int)).toNat = 25 + 300 * w + k := by omega
  rw [uX9_lay]
  simp (disch := omega) only [eX9_lay_0, eX9_lay_1, eX9_lay_4, eX9_lay_6, eX9_lay_9, eX9_lay_10, eX9_lay_11, eX9_lay_12, eX9_lay_13, eX9_lay_14, eX9_lay_15, eX9_lay_16, if_pos, if_neg, if_true, if_false, Option.bind_some, Option.toList_some, Option.toList_none, List.cons_append, List.nil_append, e]
theorem z_stands {w : Nat} (hw : w < 3) : fX9_stands [vR 593, vI (w : Int)] S = some (some (vI (S 594 (20 + w))), S) := by
  obtain ⟨k0, a0, -⟩ := mk
  have e : ((20 : Int) + (w : Int)).toNat = 20 + w := by omega
  rw [uX9_stands]
  simp (disch := omega) only [eX9_stands_0, eX9_stands_1, eX9_stands_4, eX9_stands_6, eX9_stands_7, eX9_stands_8, eX9_stands_8x, eX9_stands_8y, eX9_stands_9, if_pos, if_neg, if_true, if_false, Option.bind_some, Option.toList_some, Option.toList_none, List.cons_append, List.nil_append, e]
theorem l_stonesOf {w : Nat} (hw : w < 3) (hR : RB (RA (S 594))) : ∀ (f i : Nat), i + f = 300 → rn xX9_stonesOf (4, [some (vR 593), some (vI (w : Int)), some (vI (cnt (RA (S 594) w) i : Int)), some (vI i)], [], S) = some (some (vI (cnt (RA (S 594) w) 300 : Int)), S) := by
  obtain ⟨k0, a0, -⟩ := mk
  intro f
  induction f with
  | zero =>
    intro i hi
    have e : i = 300 := by omega
    subst e
    rw [eX9_stonesOf_4]
    simp (disch := omega) only [eX9_stonesOf_0, eX9_stonesOf_1, eX9_stonesOf_2, eX9_stonesOf_3, eX9_stonesOf_5, eX9_stonesOf_8, eX9_stonesOf_11, eX9_stonesOf_12, eX9_stonesOf_13, eX9_stonesOf_14, eX9_stonesOf_15, eX9_stonesOf_18, eX9_stonesOf_21, eX9_stonesOf_22, eX9_stonesOf_25, eX9_stonesOf_26, eX9_stonesOf_27, eX9_stonesOf_28, eX9_stonesOf_31, eX9_stonesOf_34, eX9_stonesOf_35, if_pos, if_neg, if_true, if_false, Option.bind_some, Option.toList_some, Option.toList_none, List.cons_append, List.nil_append]
  | succ f ih =>
    intro i hi
    have e1 := z_repeats (S := S) hw (show i < 300 by omega)
    have hb := hR w i hw (by omega)
    rw [← ih (i + 1) (by omega), eX9_stonesOf_4]
    by_cases c : 0 < RA (S 594) w i
    · rw [cnt_s1 c]
      simp (disch := omega) only [eX9_stonesOf_0, eX9_stonesOf_1, eX9_stonesOf_2, eX9_stonesOf_3, eX9_stonesOf_5, eX9_stonesOf_8, eX9_stonesOf_11, eX9_stonesOf_12, eX9_stonesOf_13, eX9_stonesOf_14, eX9_stonesOf_15, eX9_stonesOf_18, eX9_stonesOf_21, eX9_stonesOf_22, eX9_stonesOf_25, eX9_stonesOf_26, eX9_stonesOf_27, eX9_stonesOf_28, eX9_stonesOf_31, eX9_stonesOf_34, eX9_stonesOf_35, if_pos, if_neg, if_true, if_false, Option.bind_some, Option.toList_some, Option.toList_none, List.cons_append, List.nil_append, e1]
      rw [show ((i : Int) + 1) = ((i + 1 : Nat) : Int) by omega, show ((cnt (RA (S 594) w) i : Int) + 1) = ((cnt (RA (S 594) w) i + 1 : Nat) : Int) by omega]
    · rw [cnt_s0 c]
      simp (disch := omega) only [eX9_stonesOf_0, eX9_stonesOf_1, eX9_stonesOf_2, eX9_stonesOf_3, eX9_stonesOf_5, eX9_stonesOf_8, eX9_stonesOf_11, eX9_stonesOf_12, eX9_stonesOf_13, eX9_stonesOf_14, eX9_stonesOf_15, eX9_stonesOf_18, eX9_stonesOf_21, eX9_stonesOf_22, eX9_stonesOf_25, eX9_stonesOf_26, eX9_stonesOf_27, eX9_stonesOf_28, eX9_stonesOf_31, eX9_stonesOf_34, eX9_stonesOf_35, if_pos, if_neg, if_true, if_false, Option.bind_some, Option.toList_some, Option.toList_none, List.cons_append, List.nil_append, e1]
      rw [show ((i : Int) + 1) = ((i + 1 : Nat) : Int) by omega, Int.add_zero]
theorem z_stonesOf {w : Nat} (hw : w < 3) (hR : RB (RA (S 594))) : fX9_stonesOf [vR 593, vI (w : Int)] S = some (some (vI (cnt (RA (S 594) w) 300 : Int)), S) := by
  rw [← l_stonesOf hw hR 300 0 rfl, uX9_stonesOf]
  simp (disch := omega) only [eX9_stonesOf_0, eX9_stonesOf_1, eX9_stonesOf_2, eX9_stonesOf_3, eX9_stonesOf_5, eX9_stonesOf_8, eX9_stonesOf_11, eX9_stonesOf_12, eX9_stonesOf_13, eX9_stonesOf_14, eX9_stonesOf_15, eX9_stonesOf_18, eX9_stonesOf_21, eX9_stonesOf_22, eX9_stonesOf_25, eX9_stonesOf_26, eX9_stonesOf_27, eX9_stonesOf_28, eX9_stonesOf_31, eX9_stonesOf_34, eX9_stonesOf_35, if_pos, if_neg, if_true, if_false, Option.bind_some, Option.toList_some, Option.toList_none, List.cons_append, List.nil_append]
  rfl
theorem l_firstFrom {w : Nat} {q : Int} (hw : w < 3) (hR : RB (RA (S 594))) : ∀ (f k : Nat), k + f = 300 → rn xX9_firstFrom (2, [some (vR 593), some (vI (w : Int)), some (vI q), some (vI k)], [], S) = some (some (vI (fstF (RA (S 594) w) f k : Int)), S) := by
  intro f
  induction f with
  | zero =>
    intro k hk
    have e : k = 300 := by omega
    subst e
    rw [eX9_firstFrom_2]
    simp (disch := omega) only [eX9_firstFrom_0, eX9_firstFrom_1, eX9_firstFrom_3, eX9_firstFrom_6, eX9_firstFrom_9, eX9_firstFrom_10, eX9_firstFrom_11, eX9_firstFrom_12, eX9_firstFrom_15, eX9_firstFrom_18, eX9_firstFrom_21, eX9_firstFrom_24, eX9_firstFrom_25, eX9_firstFrom_28, eX9_firstFrom_31, eX9_firstFrom_32, eX9_firstFrom_35, eX9_firstFrom_38, if_pos, if_neg, if_true, if_false, Option.bind_some, Option.toList_some, Option.toList_none, List.cons_append, List.nil_append]
    rfl
  | succ f ih =>
    intro k hk
    have e1 := z_repeats (S := S) hw (show k < 300 by omega)
    have hb := hR w k hw (by omega)
    rw [eX9_firstFrom_2, fstF]
    by_cases c : 0 < RA (S 594) w k
    · rw [if_pos c]
      simp (disch := omega) only [eX9_firstFrom_0, eX9_firstFrom_1, eX9_firstFrom_3, eX9_firstFrom_6, eX9_firstFrom_9, eX9_firstFrom_10, eX9_firstFrom_11, eX9_firstFrom_12, eX9_firstFrom_15, eX9_firstFrom_18, eX9_firstFrom_21, eX9_firstFrom_24, eX9_firstFrom_25, eX9_firstFrom_28, eX9_firstFrom_31, eX9_firstFrom_32, eX9_firstFrom_35, eX9_firstFrom_38, if_pos, if_neg, if_true, if_false, Option.bind_some, Option.toList_some, Option.toList_none, List.cons_append, List.nil_append, e1]
    · rw [if_neg c, ← ih (k + 1) (by omega)]
      have z : RA (S 594) w k = 0 := by omega
      rw [z] at e1
      simp (disch := omega) only [eX9_firstFrom_0, eX9_firstFrom_1, eX9_firstFrom_3, eX9_firstFrom_6, eX9_firstFrom_9, eX9_firstFrom_10, eX9_firstFrom_11, eX9_firstFrom_12, eX9_firstFrom_15, eX9_firstFrom_18, eX9_firstFrom_21, eX9_firstFrom_24, eX9_firstFrom_25, eX9_firstFrom_28, eX9_firstFrom_31, eX9_firstFrom_32, eX9_firstFrom_35, eX9_firstFrom_38, if_pos, if_neg, if_true, if_false, Option.bind_some, Option.toList_some, Option.toList_none, List.cons_append, List.nil_append, e1]
      rw [show ((k : Int) + 1) = ((k + 1 : Nat) : Int) by omega]
theorem z_firstFrom {w k : Nat} (hw : w < 3) (hk : k ≤ 300) (hR : RB (RA (S 594))) : fX9_firstFrom [vR 593, vI (w : Int), vI (k : Int)] S = some (some (vI (fst (RA (S 594) w) k : Int)), S) := by
  rw [fst, ← l_firstFrom (q := (k : Int)) hw hR (300 - k) k (by omega), uX9_firstFrom]
  simp (disch := omega) only [eX9_firstFrom_0, eX9_firstFrom_1, eX9_firstFrom_3, eX9_firstFrom_6, eX9_firstFrom_9, eX9_firstFrom_10, eX9_firstFrom_11, eX9_firstFrom_12, eX9_firstFrom_15, eX9_firstFrom_18, eX9_firstFrom_21, eX9_firstFrom_24, eX9_firstFrom_25, eX9_firstFrom_28, eX9_firstFrom_31, eX9_firstFrom_32, eX9_firstFrom_35, eX9_firstFrom_38, if_pos, if_neg, if_true, if_false, Option.bind_some, Option.toList_some, Option.toList_none, List.cons_append, List.nil_append]
end MO
