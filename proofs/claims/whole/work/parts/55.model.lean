/-! the reference: floods -/
section MO17
variable {S : MM} {A : Nat → Int}
def dO (A : Nat → Int) : Nat → Int := fun k => if k = 7 then (fl0 A : Int) else if (1225 ≤ k ∧ k < 1225 + 900 * fl0 A) ∧ ¬ A 7 < 4 then A (k + 900) else A k
theorem fl0_3 (A : Nat → Int) (h : 0 ≤ A 7 ∧ A 7 ≤ 4) : fl0 A ≤ 3 := by
  unfold fl0
  split <;> omega
theorem l_drop : ∀ (f k : Nat) (T : MM), k + f = 3925 → 1225 ≤ k → (∀ j, T 594 j = if j = 7 then 3 else if 1225 ≤ j ∧ j < k then A (j + 900) else A j) → ∃ S', rn xX9_dropOldest (26, [some (vR 593), some (vI k)], [], T) = some (none, S') ∧ (∀ j, S' 594 j = if j = 7 then 3 else if 1225 ≤ j ∧ j < 3925 then A (j + 900) else A j) ∧ (∀ a, a ≠ 594 → S' a = T a) := by
  obtain ⟨k0, a0, -⟩ := mk
  have n7 : (7 : Int).toNat = 7 := rfl
  intro f
  induction f with
  | zero =>
    intro k T hk h1 hT
    have e : k = 3925 := by omega
    subst e
    have q7 : T 594 7 = 3 := by rw [hT, if_pos rfl]
    refine ⟨T, ?_, hT, fun _ _ => rfl⟩
    rw [eX9_dropOldest_26]
    simp (disch := omega) only [eX9_dropOldest_0, eX9_dropOldest_1, eX9_dropOldest_4, eX9_dropOldest_6, eX9_dropOldest_6x, eX9_dropOldest_6y, eX9_dropOldest_7, eX9_dropOldest_8, eX9_dropOldest_11, eX9_dropOldest_12, eX9_dropOldest_15, eX9_dropOldest_17, eX9_dropOldest_18, eX9_dropOldest_18x, eX9_dropOldest_18y, eX9_dropOldest_19, eX9_dropOldest_20, eX9_dropOldest_21, eX9_dropOldest_22, eX9_dropOldest_25, eX9_dropOldest_27, eX9_dropOldest_30, eX9_dropOldest_33, eX9_dropOldest_34, eX9_dropOldest_37, eX9_dropOldest_39, eX9_dropOldest_39x, eX9_dropOldest_39y, eX9_dropOldest_40, eX9_dropOldest_41, eX9_dropOldest_42, eX9_dropOldest_45, eX9_dropOldest_46, eX9_dropOldest_49, eX9_dropOldest_50, eX9_dropOldest_51, eX9_dropOldest_54, eX9_dropOldest_55, eX9_dropOldest_58, eX9_dropOldest_59, eX9_dropOldest_59x, eX9_dropOldest_59y, eX9_dropOldest_60, eX9_dropOldest_61, eX9_dropOldest_64, eX9_dropOldest_67, if_pos, if_neg, if_true, if_false, Option.bind_some, Option.toList_some, Option.toList_none, List.cons_append, List.nil_append, n7, q7]
  | succ f ih =>
    intro k T hk h1 hT
    have q7 : T 594 7 = 3 := by rw [hT, if_pos rfl]
    have e9 : ((k : Int) + 900).toNat = k + 900 := by omega
    have qk : T 594 (k + 900) = A (k + 900) := by rw [hT, if_neg (by omega), if_neg (by omega)]
    obtain ⟨S', w1, w2, w3⟩ := ih (k + 1) (updM T 594 k (A (k + 900))) (by omega) (by omega) (fun j => by
      rw [updM_eq]
      by_cases c : j = k
      · rw [c, up_eq, if_neg (by omega), if_pos (by omega)]
      · rw [up_ne c, hT]
        by_cases d : j = 7
        · rw [if_pos d, if_pos d]
        · rw [if_neg d, if_neg d]
          by_cases d2 : 1225 ≤ j ∧ j < k
          · rw [if_pos d2, if_pos (by omega)]
          · rw [if_neg d2, if_neg (by omega)])
    refine ⟨S', ?_, w2, fun a ha => by rw [w3 a ha, updM_ne ha]⟩
    rw [← w1, eX9_dropOldest_26]
    simp (disch := omega) only [eX9_dropOldest_0, eX9_dropOldest_1, eX9_dropOldest_4, eX9_dropOldest_6, eX9_dropOldest_6x, eX9_dropOldest_6y, eX9_dropOldest_7, eX9_dropOldest_8, eX9_dropOldest_11, eX9_dropOldest_12, eX9_dropOldest_15, eX9_dropOldest_17, eX9_dropOldest_18, eX9_dropOldest_18x, eX9_dropOldest_18y, eX9_dropOldest_19, eX9_dropOldest_20, eX9_dropOldest_21, eX9_dropOldest_22, eX9_dropOldest_25, eX9_dropOldest_27, eX9_dropOldest_30, eX9_dropOldest_33, eX9_dropOldest_34, eX9_dropOldest_37, eX9_dropOldest_39, eX9_dropOldest_39x, eX9_dropOldest_39y, eX9_dropOldest_40, eX9_dropOldest_41, eX9_dropOldest_42, eX9_dropOldest_45, eX9_dropOldest_46, eX9_dropOldest_49, eX9_dropOldest_50, eX9_dropOldest_51, eX9_dropOldest_54, eX9_dropOldest_55, eX9_dropOldest_58, eX9_dropOldest_59, eX9_dropOldest_59x, eX9_dropOldest_59y, eX9_dropOldest_60, eX9_dropOldest_61, eX9_dropOldest_64, eX9_dropOldest_67, if_pos, if_neg, if_true, if_false, Option.bind_some, Option.toList_some, Option.toList_none, List.cons_append, List.nil_append, n7, q7, e9, qk, Int.toNat_natCast]
    rw [show ((k : Int) + 1) = ((k + 1 : Nat) : Int) by omega]
theorem z_dropOldest (h0 : S 594 = A) (h7 : 0 ≤ A 7 ∧ A 7 ≤ 4) : ∃ S', fX9_dropOldest [vR 593] S = some (none, S') ∧ S' 594 = dO A ∧ (∀ a, a ≠ 594 → S' a = S a) := by
  obtain ⟨k0, a0, -⟩ := mk
  have n7 : (7 : Int).toNat = 7 := rfl
  have q7 : S 594 7 = A 7 := by rw [h0]
  rw [uX9_dropOldest]
  by_cases c : A 7 < 4
  · have e : fl0 A = (A 7).toNat := by unfold fl0; rw [if_pos c]
    refine ⟨S, ?_, ?_, fun _ _ => rfl⟩
    · simp (disch := omega) only [eX9_dropOldest_0, eX9_dropOldest_1, eX9_dropOldest_4, eX9_dropOldest_6, eX9_dropOldest_6x, eX9_dropOldest_6y, eX9_dropOldest_7, eX9_dropOldest_8, eX9_dropOldest_11, eX9_dropOldest_12, eX9_dropOldest_15, eX9_dropOldest_17, eX9_dropOldest_18, eX9_dropOldest_18x, eX9_dropOldest_18y, eX9_dropOldest_19, eX9_dropOldest_20, eX9_dropOldest_21, eX9_dropOldest_22, eX9_dropOldest_25, eX9_dropOldest_27, eX9_dropOldest_30, eX9_dropOldest_33, eX9_dropOldest_34, eX9_dropOldest_37, eX9_dropOldest_39, eX9_dropOldest_39x, eX9_dropOldest_39y, eX9_dropOldest_40, eX9_dropOldest_41, eX9_dropOldest_42, eX9_dropOldest_45, eX9_dropOldest_46, eX9_dropOldest_49, eX9_dropOldest_50, eX9_dropOldest_51, eX9_dropOldest_54, eX9_dropOldest_55, eX9_dropOldest_58, eX9_dropOldest_59, eX9_dropOldest_59x, eX9_dropOldest_59y, eX9_dropOldest_60, eX9_dropOldest_61, eX9_dropOldest_64, eX9_dropOldest_67, if_pos, if_neg, if_true, if_false, Option.bind_some, Option.toList_some, Option.toList_none, List.cons_append, List.nil_append, n7, q7]
    · rw [h0]
      funext k
      unfold dO
      by_cases d : k = 7
      · rw [if_pos d, d, e]
        omega
      · rw [if_neg d, if_neg (fun y => y.2 c)]
  · have e : fl0 A = 3 := by unfold fl0; rw [if_neg c]
    have c4 : A 7 = 4 := by omega
    obtain ⟨S', w1, w2, w3⟩ := l_drop (A := A) 2700 1225 (updM S 594 7 3) rfl (by omega) (fun j => by
      rw [updM_eq, h0]
      by_cases d : j = 7
      · rw [if_pos d, d, up_eq]
      · rw [if_neg d, up_ne d, if_neg (by omega)])
    refine ⟨S', ?_, ?_, fun a ha => by rw [w3 a ha, updM_ne ha]⟩
    · rw [show ((1225 : Nat) : Int) = 1225 from rfl] at w1
      rw [← w1]
      simp (disch := omega) only [eX9_dropOldest_0, eX9_dropOldest_1, eX9_dropOldest_4, eX9_dropOldest_6, eX9_dropOldest_6x, eX9_dropOldest_6y, eX9_dropOldest_7, eX9_dropOldest_8, eX9_dropOldest_11, eX9_dropOldest_12, eX9_dropOldest_15, eX9_dropOldest_17, eX9_dropOldest_18, eX9_dropOldest_18x, eX9_dropOldest_18y, eX9_dropOldest_19, eX9_dropOldest_20, eX9_dropOldest_21, eX9_dropOldest_22, eX9_dropOldest_25, eX9_dropOldest_27, eX9_dropOldest_30, eX9_dropOldest_33, eX9_dropOldest_34, eX9_dropOldest_37, eX9_dropOldest_39, eX9_dropOldest_39x, eX9_dropOldest_39y, eX9_dropOldest_40, eX9_dropOldest_41, eX9_dropOldest_42, eX9_dropOldest_45, eX9_dropOldest_46, eX9_dropOldest_49, eX9_dropOldest_50, eX9_dropOldest_51, eX9_dropOldest_54, eX9_dropOldest_55, eX9_dropOldest_58, eX9_dropOldest_59, eX9_dropOldest_59x, eX9_dropOldest_59y, eX9_dropOldest_60, eX9_dropOldest_61, eX9_dropOldest_64, eX9_dropOldest_67, if_pos, if_neg, if_true, if_false, Option.bind_some, Option.toList_some, Option.toList_none, List.cons_append, List.nil_append, n7, q7, c4]
      rfl
    · funext k
      rw [w2]
      unfold dO
      rw [e]
      by_cases d : k = 7
      · rw [if_pos d, if_pos d]
        rfl
      · rw [if_neg d, if_neg d]
        by_cases d2 : 1225 ≤ k ∧ k < 3925
        · rw [if_pos d2, if_pos ⟨by omega, c⟩]
        · rw [if_neg d2, if_neg (fun y => d2 (by omega))]
theorem l_tak {w a b J : Nat} {B : Nat → Int} (hw : w < 3) (ha : a ≤ b) (hb : b < 300) (hJ : 1225 ≤ J) (hJ2 : J + 300 ≤ 4825) (hR : ∀ k, k < 300 → 0 ≤ B (25 + 300 * w + k) ∧ B (25 + 300 * w + k) ≤ 9) : ∀ (f k : Nat) (T : MM), k + f = b + 1 → a ≤ k → (∀ j, T 594 j = if 25 + 300 * w + a ≤ j ∧ j < 25 + 300 * w + k then 0 else if J + a ≤ j ∧ j < J + k then B (25 + 300 * w + (j - J)) else B j) → ∃ S', rn xX9_take (29, [some (vR 593), some (vI (w : Int)), some (vI (a : Int)), some (vI (b : Int)), some (vI (J : Int)), some (vI (cnt (mIn (fun k => B (25 + 300 * w + k)) a b) k : Int)), some (vI (k : Int))], [], T) = some (some (vI (cnt (mIn (fun k => B (25 + 300 * w + k)) a b) 300 : Int)), S') ∧ (∀ j, S' 594 j = if 25 + 300 * w + a ≤ j ∧ j < 25 + 300 * w + (b + 1) then 0 else if J + a ≤ j ∧ j < J + (b + 1) then B (25 + 300 * w + (j - J)) else B j) ∧ (∀ c, c ≠ 594 → S' c = T c) := by
  obtain ⟨k0, a0, -⟩ := mk
  intro f
  induction f with
  | zero =>
    intro k T hk hka hT
    have e : k = b + 1 := by omega
    subst e
    refine ⟨T, ?_, hT, fun _ _ => rfl⟩
    rw [eX9_take_29, ← cnt_skip (r := mIn (fun k => B (25 + 300 * w + k)) a b) (a := b + 1) (b := 300) (by omega) (fun j y1 y2 y3 => by
      unfold mIn at y3
      rw [if_neg (by omega)] at y3
      omega)]
    simp (disch := omega) only [eX9_take_0, eX9_take_3, eX9_take_6, eX9_take_7, eX9_take_10, eX9_take_12, eX9_take_12x, eX9_take_12y, eX9_take_13, eX9_take_14, eX9_take_15, eX9_take_18, eX9_take_19, eX9_take_20, eX9_take_21, eX9_take_23, eX9_take_24, eX9_take_26, eX9_take_27, eX9_take_31, eX9_take_32, eX9_take_35, eX9_take_36, eX9_take_39, eX9_take_41, eX9_take_43, eX9_take_44, eX9_take_45, eX9_take_46, eX9_take_48, eX9_take_51, eX9_take_52, eX9_take_54, eX9_take_55, eX9_take_56, eX9_take_58, eX9_take_61, eX9_take_64, eX9_take_65, eX9_take_68, eX9_take_69, eX9_take_70, eX9_take_72, eX9_take_73, eX9_take_74, eX9_take_76, eX9_take_77, eX9_take_80, eX9_take_83, eX9_take_86, eX9_take_88, if_pos, if_neg, if_true, if_false, Option.bind_some, Option.toList_some, Option.toList_none, List.cons_append, List.nil_append]
  | succ f ih =>
    intro k T hk hka hT
    have hb1 := hR k (by omega)
    have e1 := z_repeats (S := T) (w := w) (k := k) hw (by omega)
    have r1 : RA (T 594) w k = B (25 + 300 * w + k) := by
      show T 594 (25 + 300 * w + k) = _
      rw [hT, if_neg (by omega), if_neg (by omega)]
    rw [r1] at e1
    have eJ : ((J : Int) + (k : Int)).toNat = J + k := by omega
    obtain ⟨T1, hT1⟩ : ∃ T', updM T 594 (J + k) (B (25 + 300 * w + k)) = T' := ⟨_, rfl⟩
    have e2 := z_repeats (S := T1) (w := w) (k := k) hw (by omega)
    have r2 : RA (T1 594) w k = B (25 + 300 * w + k) := by
      show T1 594 (25 + 300 * w + k) = _
      rw [← hT1, updM_eq, up_ne (by omega)]
      exact r1
    rw [r2] at e2
    have e3 := z_lay (S := T1) (w := w) (k := k) (t := 0) hw (by omega)
    have hm : mIn (fun k => B (25 + 300 * w + k)) a b k = B (25 + 300 * w + k) := by
      unfold mIn
      rw [if_pos (by omega)]
    obtain ⟨S', w1, w2, w3⟩ := ih (k + 1) (updM T1 594 (25 + 300 * w + k) 0) (by omega) (by omega) (fun j => by
      rw [updM_eq]
      by_cases c : j = 25 + 300 * w + k
      · rw [c, up_eq, if_pos (by omega)]
      · rw [up_ne c, ← hT1, updM_eq]
        by_cases d : j = J + k
        · rw [d, up_eq, if_neg (by omega), if_pos (by omega), show J + k - J = k by omega]
        · rw [up_ne d, hT]
          by_cases d2 : 25 + 300 * w + a ≤ j ∧ j < 25 + 300 * w + k
          · rw [if_pos d2, if_pos (by omega)]
          · rw [if_neg d2, if_neg (show ¬ (25 + 300 * w + a ≤ j ∧ j < 25 + 300 * w + (k + 1)) by omega)]
            by_cases d3 : J + a ≤ j ∧ j < J + k
            · rw [if_pos d3, if_pos (by omega)]
            · rw [if_neg d3, if_neg (by omega)])
    refine ⟨S', ?_, w2, fun c hc => by rw [w3 c hc, updM_ne hc, ← hT1, updM_ne hc]⟩
    have hle := cnt_le (mIn (fun k => B (25 + 300 * w + k)) a b) k
    by_cases c : 0 < B (25 + 300 * w + k)
    · rw [cnt_s1 (by rw [hm]; exact c)] at w1
      rw [← w1, eX9_take_29]
      simp (disch := omega) only [eX9_take_0, eX9_take_3, eX9_take_6, eX9_take_7, eX9_take_10, eX9_take_12, eX9_take_12x, eX9_take_12y, eX9_take_13, eX9_take_14, eX9_take_15, eX9_take_18, eX9_take_19, eX9_take_20, eX9_take_21, eX9_take_23, eX9_take_24, eX9_take_26, eX9_take_27, eX9_take_31, eX9_take_32, eX9_take_35, eX9_take_36, eX9_take_39, eX9_take_41, eX9_take_43, eX9_take_44, eX9_take_45, eX9_take_46, eX9_take_48, eX9_take_51, eX9_take_52, eX9_take_54, eX9_take_55, eX9_take_56, eX9_take_58, eX9_take_61, eX9_take_64, eX9_take_65, eX9_take_68, eX9_take_69, eX9_take_70, eX9_take_72, eX9_take_73, eX9_take_74, eX9_take_76, eX9_take_77, eX9_take_80, eX9_take_83, eX9_take_86, eX9_take_88, if_pos, if_neg, if_true, if_false, Option.bind_some, Option.toList_some, Option.toList_none, List.cons_append, List.nil_append, e1, eJ, hT1, e2, e3]
      rw [show ((k : Int) + 1) = ((k + 1 : Nat) : Int) by omega, show ∀ x : Nat, ((x : Int) + 1) = ((x + 1 : Nat) : Int) from fun x => by omega]
    · rw [cnt_s0 (by rw [hm]; exact c)] at w1
      rw [← w1, eX9_take_29]
      simp (disch := omega) only [eX9_take_0, eX9_take_3, eX9_take_6, eX9_take_7, eX9_take_10, eX9_take_12, eX9_take_12x, eX9_take_12y, eX9_take_13, eX9_take_14, eX9_take_15, eX9_take_18, eX9_take_19, eX9_take_20, eX9_take_21, eX9_take_23, eX9_take_24, eX9_take_26, eX9_take_27, eX9_take_31, eX9_take_32, eX9_take_35, eX9_take_36, eX9_take_39, eX9_take_41, eX9_take_43, eX9_take_44, eX9_take_45, eX9_take_46, eX9_take_48, eX9_take_51, eX9_take_52, eX9_take_54, eX9_take_55, eX9_take_56, eX9_take_58, eX9_take_61, eX9_take_64, eX9_take_65, eX9_take_68, eX9_take_69, eX9_take_70, eX9_take_72, eX9_take_73, eX9_take_74, eX9_take_76, eX9_take_77, eX9_take_80, eX9_take_83, eX9_take_86, eX9_take_88, if_pos, if_neg, if_true, if_false, Option.bind_some, Option.toList_some, Option.toList_none, List.cons_append, List.nil_append, e1, eJ, hT1, e2, e3]
      rw [show ((k : Int) + 1) = ((k + 1 : Nat) : Int) by omega, Int.add_zero]
theorem z_take {w a b q : Nat} {B : Nat → Int} (h0 : S 594 = B) (hq : B 7 = (q : Int)) (hq3 : q ≤ 3) (hw : w < 3) (ha : a ≤ b) (hb : b < 300) (hR : ∀ k, k < 300 → 0 ≤ B (25 + 300 * w + k) ∧ B (25 + 300 * w + k) ≤ 9) : ∃ S', fX9_take [vR 593, vI (w : Int), vI (a : Int), vI (b : Int)] S = some (some (vI (cnt (mIn (fun k => B (25 + 300 * w + k)) a b) 300 : Int)), S') ∧ (∀ j, S' 594 j = if 25 + 300 * w + a ≤ j ∧ j < 25 + 300 * w + (b + 1) then 0 else if 1225 + 900 * q + 300 * w + a ≤ j ∧ j < 1225 + 900 * q + 300 * w + (b + 1) then B (25 + 300 * w + (j - (1225 + 900 * q + 300 * w))) else B j) ∧ (∀ c, c ≠ 594 → S' c = S c) := by
  obtain ⟨k0, a0, -⟩ := mk
  have n7 : (7 : Int).toNat = 7 := rfl
  have q7 : S 594 7 = (q : Int) := by rw [h0]; exact hq
  obtain ⟨S', w1, w2⟩ := l_tak (J := 1225 + 900 * q + 300 * w) hw ha hb (by omega) (by omega) hR (b + 1 - a) a S (by omega) (by omega) (fun j => by rw [h0, if_neg (by omega), if_neg (by omega)])
  have ej : (1225 : Int) + 900 * (q : Int) + 300 * (w : Int) = ((1225 + 900 * q + 300 * w : Nat) : Int) := by omega
  have c0 : cnt (mIn (fun k => B (25 + 300 * w + k)) a b) a = 0 := cnt_skip (r := mIn (fun k => B (25 + 300 * w + k)) a b) (a := 0) (b := a) (by omega) (fun j y1 y2 y3 => by
    unfold mIn at y3
    rw [if_neg (by omega)] at y3
    omega)
  rw [c0] at w1
  refine ⟨S', ?_, w2⟩
  rw [← w1, uX9_take]
  simp (disch := omega) only [eX9_take_0, eX9_take_3, eX9_take_6, eX9_take_7, eX9_take_10, eX9_take_12, eX9_take_12x, eX9_take_12y, eX9_take_13, eX9_take_14, eX9_take_15, eX9_take_18, eX9_take_19, eX9_take_20, eX9_take_21, eX9_take_23, eX9_take_24, eX9_take_26, eX9_take_27, eX9_take_31, eX9_take_32, eX9_take_35, eX9_take_36, eX9_take_39, eX9_take_41, eX9_take_43, eX9_take_44, eX9_take_45, eX9_take_46, eX9_take_48, eX9_take_51, eX9_take_52, eX9_take_54, eX9_take_55, eX9_take_56, eX9_take_58, eX9_take_61, eX9_take_64, eX9_take_65, eX9_take_68, eX9_take_69, eX9_take_70, eX9_take_72, eX9_take_73, eX9_take_74, eX9_take_76, eX9_take_77, eX9_take_80, eX9_take_83, eX9_take_86, eX9_take_88, if_pos, if_neg, if_true, if_false, Option.bind_some, Option.toList_some, Option.toList_none, List.cons_append, List.nil_append, n7, q7, ej]
  rfl
theorem l_clear {q : Nat} (hq3 : q ≤ 3) {B : Nat → Int} (hq : B 7 = (q : Int)) {l1 l2 l3 l6 : Option VV} {x : Int} : ∀ (f k : Nat) (T : MM), k + f = 900 → (∀ j, T 594 j = if 1225 + 900 * q ≤ j ∧ j < 1225 + 900 * q + k then 0 else B j) → ∃ S', rn xX9_tryFlood (39, [some (vR 593), l1, l2, l3, some (vI x), some (vI (k : Int)), l6], [], T) = rn xX9_tryFlood (77, [some (vR 593), l1, l2, l3, some (vI x), some (vI 900), l6], [], S') ∧ (∀ j, S' 594 j = if 1225 + 900 * q ≤ j ∧ j < 2125 + 900 * q then 0 else B j) ∧ (∀ c, c ≠ 594 → S' c = T c) := by
  obtain ⟨k0, a0, -⟩ := mk
  have n7 : (7 : Int).toNat = 7 := rfl
  intro f
  induction f with
  | zero =>
    intro k T hk hT
    have e : k = 900 := by omega
    subst e
    refine ⟨T, ?_, fun j => ?_, fun _ _ => rfl⟩
    · rw [eX9_tryFlood_39]
      simp (disch := omega) only [eX9_tryFlood_0, eX9_tryFlood_1, eX9_tryFlood_3, eX9_tryFlood_6, eX9_tryFlood_7, eX9_tryFlood_10, eX9_tryFlood_13, eX9_tryFlood_14, eX9_tryFlood_15, eX9_tryFlood_16, eX9_tryFlood_17, eX9_tryFlood_20, eX9_tryFlood_23, eX9_tryFlood_25, eX9_tryFlood_26, eX9_tryFlood_27, eX9_tryFlood_29, eX9_tryFlood_32, eX9_tryFlood_33, eX9_tryFlood_36, eX9_tryFlood_37, eX9_tryFlood_41, eX9_tryFlood_44, eX9_tryFlood_47, eX9_tryFlood_48, eX9_tryFlood_51, eX9_tryFlood_54, eX9_tryFlood_57, eX9_tryFlood_58, eX9_tryFlood_61, eX9_tryFlood_63, eX9_tryFlood_63x, eX9_tryFlood_63y, eX9_tryFlood_64, eX9_tryFlood_65, eX9_tryFlood_66, eX9_tryFlood_68, eX9_tryFlood_69, eX9_tryFlood_70, eX9_tryFlood_71, eX9_tryFlood_74, eX9_tryFlood_77, eX9_tryFlood_78, eX9_tryFlood_80, eX9_tryFlood_81, eX9_tryFlood_85, eX9_tryFlood_86, eX9_tryFlood_89, eX9_tryFlood_91, eX9_tryFlood_92, eX9_tryFlood_94, eX9_tryFlood_97, eX9_tryFlood_98, eX9_tryFlood_100, eX9_tryFlood_103, eX9_tryFlood_104, eX9_tryFlood_106, eX9_tryFlood_107, eX9_tryFlood_108, eX9_tryFlood_111, eX9_tryFlood_114, eX9_tryFlood_115, eX9_tryFlood_116, eX9_tryFlood_118, eX9_tryFlood_121, eX9_tryFlood_124, eX9_tryFlood_125, eX9_tryFlood_128, eX9_tryFlood_130, eX9_tryFlood_131, eX9_tryFlood_131x, eX9_tryFlood_131y, eX9_tryFlood_132, eX9_tryFlood_133, eX9_tryFlood_134, eX9_tryFlood_135, eX9_tryFlood_136, eX9_tryFlood_140, eX9_tryFlood_141, eX9_tryFlood_144, eX9_tryFlood_145, eX9_tryFlood_147, eX9_tryFlood_150, eX9_tryFlood_153, eX9_tryFlood_156, eX9_tryFlood_157, eX9_tryFlood_160, eX9_tryFlood_162, if_pos, if_neg, if_true, if_false, Option.bind_some, Option.toList_some, Option.toList_none, List.cons_append, List.nil_append]
    · rw [hT, show 1225 + 900 * q + 900 = 2125 + 900 * q by omega]
  | succ f ih =>
    intro k T hk hT
    have q7 : T 594 7 = (q : Int) := by rw [hT, if_neg (by omega)]; exact hq
    have ej : ((1225 : Int) + 900 * (q : Int) + (k : Int)).toNat = 1225 + 900 * q + k := by omega
    obtain ⟨S', w1, w2, w3⟩ := ih (k + 1) (updM T 594 (1225 + 900 * q + k) 0) (by omega) (fun j => by
      rw [updM_eq]
      by_cases c : j = 1225 + 900 * q + k
      · rw [c, up_eq, if_pos (by omega)]
      · rw [up_ne c, hT]
        by_cases d : 1225 + 900 * q ≤ j ∧ j < 1225 + 900 * q + k
        · rw [if_pos d, if_pos (by omega)]
        · rw [if_neg d, if_neg (by omega)])
    refine ⟨S', ?_, w2, fun c hc => by rw [w3 c hc, updM_ne hc]⟩
    rw [← w1, eX9_tryFlood_39]
    simp (disch := omega) only [eX9_tryFlood_0, eX9_tryFlood_1, eX9_tryFlood_3, eX9_tryFlood_6, eX9_tryFlood_7, eX9_tryFlood_10, eX9_tryFlood_13, eX9_tryFlood_14, eX9_tryFlood_15, eX9_tryFlood_16, eX9_tryFlood_17, eX9_tryFlood_20, eX9_tryFlood_23, eX9_tryFlood_25, eX9_tryFlood_26, eX9_tryFlood_27, eX9_tryFlood_29, eX9_tryFlood_32, eX9_tryFlood_33, eX9_tryFlood_36, eX9_tryFlood_37, eX9_tryFlood_41, eX9_tryFlood_44, eX9_tryFlood_47, eX9_tryFlood_48, eX9_tryFlood_51, eX9_tryFlood_54, eX9_tryFlood_57, eX9_tryFlood_58, eX9_tryFlood_61, eX9_tryFlood_63, eX9_tryFlood_63x, eX9_tryFlood_63y, eX9_tryFlood_64, eX9_tryFlood_65, eX9_tryFlood_66, eX9_tryFlood_68, eX9_tryFlood_69, eX9_tryFlood_70, eX9_tryFlood_71, eX9_tryFlood_74, eX9_tryFlood_77, eX9_tryFlood_78, eX9_tryFlood_80, eX9_tryFlood_81, eX9_tryFlood_85, eX9_tryFlood_86, eX9_tryFlood_89, eX9_tryFlood_91, eX9_tryFlood_92, eX9_tryFlood_94, eX9_tryFlood_97, eX9_tryFlood_98, eX9_tryFlood_100, eX9_tryFlood_103, eX9_tryFlood_104, eX9_tryFlood_106, eX9_tryFlood_107, eX9_tryFlood_108, eX9_tryFlood_111, eX9_tryFlood_114, eX9_tryFlood_115, eX9_tryFlood_116, eX9_tryFlood_118, eX9_tryFlood_121, eX9_tryFlood_124, eX9_tryFlood_125, eX9_tryFlood_128, eX9_tryFlood_130, eX9_tryFlood_131, eX9_tryFlood_131x, eX9_tryFlood_131y, eX9_tryFlood_132, eX9_tryFlood_133, eX9_tryFlood_134, eX9_tryFlood_135, eX9_tryFlood_136, eX9_tryFlood_140, eX9_tryFlood_141, eX9_tryFlood_144, eX9_tryFlood_145, eX9_tryFlood_147, eX9_tryFlood_150, eX9_tryFlood_153, eX9_tryFlood_156, eX9_tryFlood_157, eX9_tryFlood_160, eX9_tryFlood_162, if_pos, if_neg, if_true, if_false, Option.bind_some, Option.toList_some, Option.toList_none, List.cons_append, List.nil_append, n7, q7, ej]
    rw [show ((k : Int) + 1) = ((k + 1 : Nat) : Int) by omega]
end MO17
