/-! the reference: looks -/
section MO14
variable {S : MM} {r : Nat → Int}
theorem updM_two {i k : Nat} {a b : Int} : updM (updM S i k a) i k b = updM S i k b := by
  funext x y
  unfold updM
  by_cases c : x = i ∧ y = k
  · rw [if_pos c, if_pos c]
  · rw [if_neg c, if_neg c, if_neg c]
theorem l_mLayKeys {w : Nat} (hw : w < 3) (hr : r = RA (S 594) w) (hR : RB (RA (S 594))) (h40 : cnt r 300 ≤ 40) : ∀ (f k : Nat) (T : MM), k + f = 300 → T 594 = S 594 → T 593 8 = (cnt r k : Int) → (∀ j, j < k → 0 < r j → T 599 (cnt r j) = (j : Int)) → (∀ j, j ≠ 8 → T 593 j = S 593 j) → (∀ a, a ≠ 593 → a ≠ 599 → T a = S a) → ∃ S', rn xX9_layKeys (7, [some (vR 593), some (vI (w : Int)), some (vI k)], [], T) = some (none, S') ∧ S' 593 8 = (cnt r 300 : Int) ∧ Enm r (S' 599) ∧ (∀ j, j ≠ 8 → S' 593 j = S 593 j) ∧ (∀ a, a ≠ 593 → a ≠ 599 → S' a = S a) := by
  have k9 := mk.2.2.2.2.2.2.2.2.2.2.2.2.2.2.2.2
  obtain ⟨k0, a0, -, -, -, -, -, -, -, -, k99, a99, -⟩ := mk
  intro f
  induction f with
  | zero =>
    intro k T hk h4 h8 he hj ha
    have e : k = 300 := by omega
    subst e
    refine ⟨T, ?_, h8, he, hj, ha⟩
    rw [eX9_layKeys_7]
    simp (disch := omega) only [eX9_layKeys_0, eX9_layKeys_1, eX9_layKeys_2, eX9_layKeys_5, eX9_layKeys_6, eX9_layKeys_8, eX9_layKeys_11, eX9_layKeys_14, eX9_layKeys_15, eX9_layKeys_16, eX9_layKeys_17, eX9_layKeys_20, eX9_layKeys_23, eX9_layKeys_24, eX9_layKeys_27, eX9_layKeys_28, eX9_layKeys_31, eX9_layKeys_32, eX9_layKeys_33, eX9_layKeys_34, eX9_layKeys_35, eX9_layKeys_38, eX9_layKeys_39, eX9_layKeys_40, eX9_layKeys_43, eX9_layKeys_46, eX9_layKeys_49, if_pos, if_neg, if_true, if_false, Option.bind_some, Option.toList_some, Option.toList_none, List.cons_append, List.nil_append]
  | succ f ih =>
    intro k T hk h4 h8 he hj ha
    have e1 := z_repeats (S := T) hw (show k < 300 by omega)
    rw [h4, ← hr] at e1
    have hb := hR w k hw (by omega)
    rw [← hr] at hb
    have hlt : cnt r k ≤ cnt r 300 := cnt_mono r (by omega)
    by_cases c : 0 < r k
    · have hl2 : cnt r k < cnt r 300 := cnt_lt (by omega) c
      have u8 : updM T 599 (cnt r k) (k : Int) 593 8 = (cnt r k : Int) := by rw [updM_ne (by omega)]; exact h8
      obtain ⟨S', w1, w2⟩ := ih (k + 1) (updM (updM T 599 (cnt r k) (k : Int)) 593 8 ((cnt r k : Int) + 1)) (by omega) (by rw [updM_ne (by omega), updM_ne (by omega)]; exact h4) (by rw [updM_eq, up_eq, cnt_s1 c]; omega) (fun j hj1 hj2 => by
        rw [updM_ne (by omega), updM_eq]
        by_cases d : j = k
        · rw [d, up_eq]
        · have hq : cnt r j < cnt r k := cnt_lt (by omega) hj2
          rw [up_ne (by omega)]
          exact he j (by omega) hj2) (fun j hj1 => by rw [updM_eq, up_ne hj1, updM_ne (by omega)]; exact hj j hj1) (fun a y1 y2 => by rw [updM_ne y1, updM_ne y2]; exact ha a y1 y2)
      refine ⟨S', ?_, w2⟩
      rw [← w1, eX9_layKeys_7]
      simp (disch := omega) only [eX9_layKeys_0, eX9_layKeys_1, eX9_layKeys_2, eX9_layKeys_5, eX9_layKeys_6, eX9_layKeys_8, eX9_layKeys_11, eX9_layKeys_14, eX9_layKeys_15, eX9_layKeys_16, eX9_layKeys_17, eX9_layKeys_20, eX9_layKeys_23, eX9_layKeys_24, eX9_layKeys_27, eX9_layKeys_28, eX9_layKeys_31, eX9_layKeys_32, eX9_layKeys_33, eX9_layKeys_34, eX9_layKeys_35, eX9_layKeys_38, eX9_layKeys_39, eX9_layKeys_40, eX9_layKeys_43, eX9_layKeys_46, eX9_layKeys_49, if_pos, if_neg, if_true, if_false, Option.bind_some, Option.toList_some, Option.toList_none, List.cons_append, List.nil_append, e1, h8, Int.toNat_natCast, u8]
      rw [show ((k : Int) + 1) = ((k + 1 : Nat) : Int) by omega]
    · obtain ⟨S', w1, w2⟩ := ih (k + 1) T (by omega) h4 (by rw [cnt_s0 c]; exact h8) (fun j hj1 hj2 => by
        by_cases d : j = k
        · rw [d] at hj2
          exact absurd hj2 c
        · exact he j (by omega) hj2) hj ha
      refine ⟨S', ?_, w2⟩
      rw [← w1, eX9_layKeys_7]
      simp (disch := omega) only [eX9_layKeys_0, eX9_layKeys_1, eX9_layKeys_2, eX9_layKeys_5, eX9_layKeys_6, eX9_layKeys_8, eX9_layKeys_11, eX9_layKeys_14, eX9_layKeys_15, eX9_layKeys_16, eX9_layKeys_17, eX9_layKeys_20, eX9_layKeys_23, eX9_layKeys_24, eX9_layKeys_27, eX9_layKeys_28, eX9_layKeys_31, eX9_layKeys_32, eX9_layKeys_33, eX9_layKeys_34, eX9_layKeys_35, eX9_layKeys_38, eX9_layKeys_39, eX9_layKeys_40, eX9_layKeys_43, eX9_layKeys_46, eX9_layKeys_49, if_pos, if_neg, if_true, if_false, Option.bind_some, Option.toList_some, Option.toList_none, List.cons_append, List.nil_append, e1]
      rw [show ((k : Int) + 1) = ((k + 1 : Nat) : Int) by omega]
theorem z_layKeys {w : Nat} (hw : w < 3) (hr : r = RA (S 594) w) (hR : RB (RA (S 594))) (h40 : cnt r 300 ≤ 40) : ∃ S', fX9_layKeys [vR 593, vI (w : Int)] S = some (none, S') ∧ S' 593 8 = (cnt r 300 : Int) ∧ Enm r (S' 599) ∧ (∀ j, j ≠ 8 → S' 593 j = S 593 j) ∧ (∀ a, a ≠ 593 → a ≠ 599 → S' a = S a) := by
  have k9 := mk.2.2.2.2.2.2.2.2.2.2.2.2.2.2.2.2
  obtain ⟨S', w1, w2⟩ := l_mLayKeys (S := S) hw hr hR h40 300 0 (updM S 593 8 0) rfl (updM_ne (by omega)) (by rw [updM_eq, up_eq]; rfl) (fun j hj => by omega) (fun j hj => by rw [updM_eq, up_ne hj]) (fun a y1 y2 => updM_ne y1)
  refine ⟨S', ?_, w2⟩
  rw [← w1, uX9_layKeys]
  simp (disch := omega) only [eX9_layKeys_0, eX9_layKeys_1, eX9_layKeys_2, eX9_layKeys_5, eX9_layKeys_6, eX9_layKeys_8, eX9_layKeys_11, eX9_layKeys_14, eX9_layKeys_15, eX9_layKeys_16, eX9_layKeys_17, eX9_layKeys_20, eX9_layKeys_23, eX9_layKeys_24, eX9_layKeys_27, eX9_layKeys_28, eX9_layKeys_31, eX9_layKeys_32, eX9_layKeys_33, eX9_layKeys_34, eX9_layKeys_35, eX9_layKeys_38, eX9_layKeys_39, eX9_layKeys_40, eX9_layKeys_43, eX9_layKeys_46, eX9_layKeys_49, if_pos, if_neg, if_true, if_false, Option.bind_some, Option.toList_some, Option.toList_none, List.cons_append, List.nil_append]
  rfl
theorem z_isShort {j : Nat} {z : Int} (hE : Enm r (S 599)) (h40 : cnt r 300 ≤ 40) (hj : j < cnt r 300) (hg : 0 ≤ S 594 5 ∧ S 594 5 ≤ 300) (hz : 0 ≤ z ∧ z ≤ 1000) : fX9_isShort [vR 593, vI (j : Int)] (updM S 593 9 z) = some (some (vI (if (j : Int) < (cnt r (S 594 5).toNat : Int) then 1 else 0)), updM S 593 9 (z + 1)) := by
  have k9 := mk.2.2.2.2.2.2.2.2.2.2.2.2.2.2.2.2
  obtain ⟨k0, a0, -, -, -, -, -, -, -, -, k99, a99, -⟩ := mk
  have u9 : updM S 593 9 z 593 9 = z := by rw [updM_eq, up_eq]
  have v1 : updM S 593 9 (z + 1) 599 = S 599 := updM_ne (by omega)
  have v2 : updM S 593 9 (z + 1) 594 = S 594 := updM_ne (by omega)
  have hl := hE.ltI hg.1 hj
  have hb := hE.rng hj
  have n5 : (5 : Int).toNat = 5 := rfl
  rw [uX9_isShort]
  by_cases c : j < cnt r (S 594 5).toNat
  · have c2 := hl.mpr c
    rw [if_pos (by omega)]
    simp (disch := omega) only [eX9_isShort_0, eX9_isShort_1, eX9_isShort_2, eX9_isShort_5, eX9_isShort_6, eX9_isShort_7, eX9_isShort_10, eX9_isShort_11, eX9_isShort_14, eX9_isShort_15, eX9_isShort_15x, eX9_isShort_15y, eX9_isShort_16, eX9_isShort_17, eX9_isShort_20, eX9_isShort_21, eX9_isShort_21x, eX9_isShort_21y, eX9_isShort_22, eX9_isShort_25, eX9_isShort_26, eX9_isShort_29, eX9_isShort_30, if_pos, if_neg, if_true, if_false, Option.bind_some, Option.toList_some, Option.toList_none, List.cons_append, List.nil_append, u9, updM_two, v1, v2, n5, Int.toNat_natCast]
  · have c2 : ¬ S 599 j < S 594 5 := fun y => c (hl.mp y)
    rw [if_neg (by omega)]
    simp (disch := omega) only [eX9_isShort_0, eX9_isShort_1, eX9_isShort_2, eX9_isShort_5, eX9_isShort_6, eX9_isShort_7, eX9_isShort_10, eX9_isShort_11, eX9_isShort_14, eX9_isShort_15, eX9_isShort_15x, eX9_isShort_15y, eX9_isShort_16, eX9_isShort_17, eX9_isShort_20, eX9_isShort_21, eX9_isShort_21x, eX9_isShort_21y, eX9_isShort_22, eX9_isShort_25, eX9_isShort_26, eX9_isShort_29, eX9_isShort_30, if_pos, if_neg, if_true, if_false, Option.bind_some, Option.toList_some, Option.toList_none, List.cons_append, List.nil_append, u9, updM_two, v1, v2, n5, Int.toNat_natCast]
theorem l_mHalve (hE : Enm r (S 599)) (h40 : cnt r 300 ≤ 40) (hg : 0 ≤ S 594 5 ∧ S 594 5 ≤ 300) {f1 f2 : Int} : ∀ (f : Nat) (p q z : Int) (x : Option VV), 0 ≤ p → p ≤ q → q ≤ (cnt r 300 : Int) → q - p ≤ (f : Int) + 1 → 0 ≤ z → z + f ≤ 1000 → rn xX9_halve (5, [some (vR 593), some (vI f1), some (vI f2), some (vI p), some (vI q), x], [], updM S 593 9 z) = some (none, updM S 593 9 (z + lkH f p q (cnt r (S 594 5).toNat : Int))) := by
  intro f
  induction f with
  | zero =>
    intro p q z x hp hpq hq hf hz hz2
    rw [eX9_halve_5, lkH, Int.add_zero]
    simp (disch := omega) only [eX9_halve_0, eX9_halve_1, eX9_halve_2, eX9_halve_3, eX9_halve_7, eX9_halve_8, eX9_halve_9, eX9_halve_10, eX9_halve_13, eX9_halve_14, eX9_halve_16, eX9_halve_17, eX9_halve_18, eX9_halve_19, eX9_halve_21, eX9_halve_22, eX9_halve_24, eX9_halve_27, eX9_halve_30, eX9_halve_32, eX9_halve_33, eX9_halve_36, eX9_halve_38, eX9_halve_40, eX9_halve_43, if_pos, if_neg, if_true, if_false, Option.bind_some, Option.toList_some, Option.toList_none, List.cons_append, List.nil_append]
  | succ f ih =>
    intro p q z x hp hpq hq hf hz hz2
    rw [eX9_halve_5, lkH]
    by_cases c : q - p > 1
    · obtain ⟨j, hj⟩ : ∃ j : Nat, (p + q) / 2 = (j : Int) := ⟨((p + q) / 2).toNat, by omega⟩
      have e1 := z_isShort (S := S) (j := j) hE h40 (by omega) hg ⟨hz, by omega⟩
      rw [if_pos c, hj]
      by_cases d : (j : Int) < (cnt r (S 594 5).toNat : Int)
      · rw [if_pos d] at e1 ⊢
        rw [show ∀ X : Int, z + (X + 1) = z + 1 + X from fun X => by omega, ← ih (j : Int) q (z + 1) (some (vI (j : Int))) (by omega) (by omega) (by omega) (by omega) (by omega) (by omega)]
        simp (disch := omega) only [eX9_halve_0, eX9_halve_1, eX9_halve_2, eX9_halve_3, eX9_halve_7, eX9_halve_8, eX9_halve_9, eX9_halve_10, eX9_halve_13, eX9_halve_14, eX9_halve_16, eX9_halve_17, eX9_halve_18, eX9_halve_19, eX9_halve_21, eX9_halve_22, eX9_halve_24, eX9_halve_27, eX9_halve_30, eX9_halve_32, eX9_halve_33, eX9_halve_36, eX9_halve_38, eX9_halve_40, eX9_halve_43, if_pos, if_neg, if_true, if_false, Option.bind_some, Option.toList_some, Option.toList_none, List.cons_append, List.nil_append, hj, e1]
      · rw [if_neg d] at e1 ⊢
        rw [show ∀ X : Int, z + (X + 1) = z + 1 + X from fun X => by omega, ← ih p (j : Int) (z + 1) (some (vI (j : Int))) (by omega) (by omega) (by omega) (by omega) (by omega) (by omega)]
        simp (disch := omega) only [eX9_halve_0, eX9_halve_1, eX9_halve_2, eX9_halve_3, eX9_halve_7, eX9_halve_8, eX9_halve_9, eX9_halve_10, eX9_halve_13, eX9_halve_14, eX9_halve_16, eX9_halve_17, eX9_halve_18, eX9_halve_19, eX9_halve_21, eX9_halve_22, eX9_halve_24, eX9_halve_27, eX9_halve_30, eX9_halve_32, eX9_halve_33, eX9_halve_36, eX9_halve_38, eX9_halve_40, eX9_halve_43, if_pos, if_neg, if_true, if_false, Option.bind_some, Option.toList_some, Option.toList_none, List.cons_append, List.nil_append, hj, e1]
    · rw [if_neg c, Int.add_zero]
      simp (disch := omega) only [eX9_halve_0, eX9_halve_1, eX9_halve_2, eX9_halve_3, eX9_halve_7, eX9_halve_8, eX9_halve_9, eX9_halve_10, eX9_halve_13, eX9_halve_14, eX9_halve_16, eX9_halve_17, eX9_halve_18, eX9_halve_19, eX9_halve_21, eX9_halve_22, eX9_halve_24, eX9_halve_27, eX9_halve_30, eX9_halve_32, eX9_halve_33, eX9_halve_36, eX9_halve_38, eX9_halve_40, eX9_halve_43, if_pos, if_neg, if_true, if_false, Option.bind_some, Option.toList_some, Option.toList_none, List.cons_append, List.nil_append]
theorem z_halve (hE : Enm r (S 599)) (h40 : cnt r 300 ≤ 40) (hg : 0 ≤ S 594 5 ∧ S 594 5 ≤ 300) {p q z : Int} (hp : 0 ≤ p) (hpq : p ≤ q) (hq : q ≤ (cnt r 300 : Int)) (hz : 0 ≤ z ∧ z ≤ 100) : fX9_halve [vR 593, vI p, vI q] (updM S 593 9 z) = some (none, updM S 593 9 (z + lkH 40 p q (cnt r (S 594 5).toNat : Int))) := by
  rw [← l_mHalve (f1 := p) (f2 := q) hE h40 hg 40 p q z none hp hpq hq (by omega) hz.1 (by omega), uX9_halve]
  simp (disch := omega) only [eX9_halve_0, eX9_halve_1, eX9_halve_2, eX9_halve_3, eX9_halve_7, eX9_halve_8, eX9_halve_9, eX9_halve_10, eX9_halve_13, eX9_halve_14, eX9_halve_16, eX9_halve_17, eX9_halve_18, eX9_halve_19, eX9_halve_21, eX9_halve_22, eX9_halve_24, eX9_halve_27, eX9_halve_30, eX9_halve_32, eX9_halve_33, eX9_halve_36, eX9_halve_38, eX9_halve_40, eX9_halve_43, if_pos, if_neg, if_true, if_false, Option.bind_some, Option.toList_some, Option.toList_none, List.cons_append, List.nil_append]
theorem l_mWalkOn (hE : Enm r (S 599)) (h40 : cnt r 300 ≤ 40) (hg : 0 ≤ S 594 5 ∧ S 594 5 ≤ 300) (h8 : S 593 8 = (cnt r 300 : Int)) {f1 : Int} : ∀ (f i : Nat) (z : Int), cnt r 300 ≤ i + f → 0 ≤ z → i ≤ 100 → z + f ≤ 1000 → rn xX9_walkOn (4, [some (vR 593), some (vI f1), some (vI (i : Int))], [], updM S 593 9 z) = some (none, updM S 593 9 (z + lk0 f (i : Int) (cnt r 300 : Int) (cnt r (S 594 5).toNat : Int))) := by
  have k9 := mk.2.2.2.2.2.2.2.2.2.2.2.2.2.2.2.2
  intro f
  induction f with
  | zero =>
    intro i z hf hz hi hz2
    have v8 : updM S 593 9 z 593 8 = (cnt r 300 : Int) := by rw [updM_eq, up_ne (by omega)]; exact h8
    rw [eX9_walkOn_4, lk0, Int.add_zero]
    simp (disch := omega) only [eX9_walkOn_0, eX9_walkOn_1, eX9_walkOn_2, eX9_walkOn_3, eX9_walkOn_5, eX9_walkOn_6, eX9_walkOn_9, eX9_walkOn_12, eX9_walkOn_13, eX9_walkOn_14, eX9_walkOn_17, eX9_walkOn_20, eX9_walkOn_23, eX9_walkOn_26, if_pos, if_neg, if_true, if_false, Option.bind_some, Option.toList_some, Option.toList_none, List.cons_append, List.nil_append, v8]
  | succ f ih =>
    intro i z hf hz hi hz2
    have v8 : updM S 593 9 z 593 8 = (cnt r 300 : Int) := by rw [updM_eq, up_ne (by omega)]; exact h8
    rw [eX9_walkOn_4, lk0]
    by_cases c : (i : Int) < (cnt r 300 : Int)
    · have e1 := z_isShort (S := S) (j := i) hE h40 (by omega) hg ⟨hz, by omega⟩
      rw [if_pos c]
      by_cases d : (i : Int) < (cnt r (S 594 5).toNat : Int)
      · rw [if_pos d] at e1 ⊢
        rw [show ∀ X : Int, z + (X + 1) = z + 1 + X from fun X => by omega, show ((i : Int) + 1) = ((i + 1 : Nat) : Int) by omega, ← ih (i + 1) (z + 1) (by omega) (by omega) (by omega) (by omega)]
        simp (disch := omega) only [eX9_walkOn_0, eX9_walkOn_1, eX9_walkOn_2, eX9_walkOn_3, eX9_walkOn_5, eX9_walkOn_6, eX9_walkOn_9, eX9_walkOn_12, eX9_walkOn_13, eX9_walkOn_14, eX9_walkOn_17, eX9_walkOn_20, eX9_walkOn_23, eX9_walkOn_26, if_pos, if_neg, if_true, if_false, Option.bind_some, Option.toList_some, Option.toList_none, List.cons_append, List.nil_append, v8, e1]
        rw [show ((i : Int) + 1) = ((i + 1 : Nat) : Int) by omega]
      · rw [if_neg d] at e1 ⊢
        simp (disch := omega) only [eX9_walkOn_0, eX9_walkOn_1, eX9_walkOn_2, eX9_walkOn_3, eX9_walkOn_5, eX9_walkOn_6, eX9_walkOn_9, eX9_walkOn_12, eX9_walkOn_13, eX9_walkOn_14, eX9_walkOn_17, eX9_walkOn_20, eX9_walkOn_23, eX9_walkOn_26, if_pos, if_neg, if_true, if_false, Option.bind_some, Option.toList_some, Option.toList_none, List.cons_append, List.nil_append, v8, e1]
    · rw [if_neg c, Int.add_zero]
      simp (disch := omega) only [eX9_walkOn_0, eX9_walkOn_1, eX9_walkOn_2, eX9_walkOn_3, eX9_walkOn_5, eX9_walkOn_6, eX9_walkOn_9, eX9_walkOn_12, eX9_walkOn_13, eX9_walkOn_14, eX9_walkOn_17, eX9_walkOn_20, eX9_walkOn_23, eX9_walkOn_26, if_pos, if_neg, if_true, if_false, Option.bind_some, Option.toList_some, Option.toList_none, List.cons_append, List.nil_append, v8]
theorem l_mDoubleOn (hE : Enm r (S 599)) (h40 : cnt r 300 ≤ 40) (hg : 0 ≤ S 594 5 ∧ S 594 5 ≤ 300) (h8 : S 593 8 = (cnt r 300 : Int)) {i : Nat} (hi : i < cnt r 300) : ∀ (f b p : Nat) (z : Int), cnt r 300 ≤ b + f → 1 ≤ b → b ≤ 100 → p < cnt r 300 → p < i + b → 0 ≤ z → z + f ≤ 50 → rn xX9_doubleOn (10, [some (vR 593), some (vI (i : Int)), some (vI (p : Int)), some (vI (cnt r 300 : Int)), some (vI (b : Int))], [], updM S 593 9 z) = some (none, updM S 593 9 (z + lk1 (f + 1) (i : Int) (b : Int) (p : Int) (cnt r 300 : Int) (cnt r (S 594 5).toNat : Int))) := by
  have k9 := mk.2.2.2.2.2.2.2.2.2.2.2.2.2.2.2.2
  have v8 : ∀ z, updM S 593 9 z 593 8 = (cnt r 300 : Int) := fun z => by rw [updM_eq, up_ne (by omega)]; exact h8
  intro f
  induction f with
  | zero =>
    intro b p z hf hb hb2 hp hpb hz hz2
    have e2 := z_halve (p := (p : Int)) (q := (cnt r 300 : Int)) (z := z) hE h40 hg (by omega) (by omega) (by omega) ⟨hz, by omega⟩
    rw [eX9_doubleOn_10, lk1, if_neg (by omega)]
    simp (disch := omega) only [eX9_doubleOn_0, eX9_doubleOn_1, eX9_doubleOn_2, eX9_doubleOn_3, eX9_doubleOn_6, eX9_doubleOn_7, eX9_doubleOn_8, eX9_doubleOn_11, eX9_doubleOn_12, eX9_doubleOn_15, eX9_doubleOn_18, eX9_doubleOn_19, eX9_doubleOn_21, eX9_doubleOn_22, eX9_doubleOn_23, eX9_doubleOn_26, eX9_doubleOn_29, eX9_doubleOn_30, eX9_doubleOn_31, eX9_doubleOn_33, eX9_doubleOn_34, eX9_doubleOn_37, eX9_doubleOn_40, eX9_doubleOn_41, eX9_doubleOn_43, eX9_doubleOn_44, eX9_doubleOn_45, eX9_doubleOn_48, eX9_doubleOn_49, eX9_doubleOn_51, eX9_doubleOn_52, eX9_doubleOn_53, eX9_doubleOn_55, eX9_doubleOn_56, eX9_doubleOn_57, eX9_doubleOn_59, eX9_doubleOn_62, eX9_doubleOn_63, eX9_doubleOn_64, eX9_doubleOn_65, eX9_doubleOn_68, if_pos, if_neg, if_true, if_false, Option.bind_some, Option.toList_some, Option.toList_none, List.cons_append, List.nil_append, v8, e2]
  | succ f ih =>
    intro b p z hf hb hb2 hp hpb hz hz2
    rw [eX9_doubleOn_10, lk1]
    by_cases c : (i : Int) + (b : Int) < (cnt r 300 : Int)
    · have e1 := z_isShort (S := S) (j := i + b) hE h40 (by omega) hg ⟨hz, by omega⟩
      rw [show ((i + b : Nat) : Int) = (i : Int) + (b : Int) by omega] at e1
      rw [if_pos c]
      by_cases d : (i : Int) + (b : Int) < (cnt r (S 594 5).toNat : Int)
      · rw [if_pos d] at e1 ⊢
        have ih := ih (b * 2) (i + b) (z + 1) (by omega) (by omega) (by omega) (by omega) (by omega) (by omega) (by omega)
        rw [show ((i + b : Nat) : Int) = (i : Int) + (b : Int) by omega, show ((b * 2 : Nat) : Int) = (b : Int) * 2 by omega] at ih
        rw [show ∀ X : Int, z + (X + 1) = z + 1 + X from fun X => by omega, ← ih]
        simp (disch := omega) only [eX9_doubleOn_0, eX9_doubleOn_1, eX9_doubleOn_2, eX9_doubleOn_3, eX9_doubleOn_6, eX9_doubleOn_7, eX9_doubleOn_8, eX9_doubleOn_11, eX9_doubleOn_12, eX9_doubleOn_15, eX9_doubleOn_18, eX9_doubleOn_19, eX9_doubleOn_21, eX9_doubleOn_22, eX9_doubleOn_23, eX9_doubleOn_26, eX9_doubleOn_29, eX9_doubleOn_30, eX9_doubleOn_31, eX9_doubleOn_33, eX9_doubleOn_34, eX9_doubleOn_37, eX9_doubleOn_40, eX9_doubleOn_41, eX9_doubleOn_43, eX9_doubleOn_44, eX9_doubleOn_45, eX9_doubleOn_48, eX9_doubleOn_49, eX9_doubleOn_51, eX9_doubleOn_52, eX9_doubleOn_53, eX9_doubleOn_55, eX9_doubleOn_56, eX9_doubleOn_57, eX9_doubleOn_59, eX9_doubleOn_62, eX9_doubleOn_63, eX9_doubleOn_64, eX9_doubleOn_65, eX9_doubleOn_68, if_pos, if_neg, if_true, if_false, Option.bind_some, Option.toList_some, Option.toList_none, List.cons_append, List.nil_append, v8, e1]
      · rw [if_neg d] at e1 ⊢
        have e2 := z_halve (p := (p : Int)) (q := (i : Int) + (b : Int)) (z := z + 1) hE h40 hg (by omega) (by omega) (by omega) ⟨by omega, by omega⟩
        rw [show ∀ X : Int, z + (X + 1) = z + 1 + X from fun X => by omega]
        simp (disch := omega) only [eX9_doubleOn_0, eX9_doubleOn_1, eX9_doubleOn_2, eX9_doubleOn_3, eX9_doubleOn_6, eX9_doubleOn_7, eX9_doubleOn_8, eX9_doubleOn_11, eX9_doubleOn_12, eX9_doubleOn_15, eX9_doubleOn_18, eX9_doubleOn_19, eX9_doubleOn_21, eX9_doubleOn_22, eX9_doubleOn_23, eX9_doubleOn_26, eX9_doubleOn_29, eX9_doubleOn_30, eX9_doubleOn_31, eX9_doubleOn_33, eX9_doubleOn_34, eX9_doubleOn_37, eX9_doubleOn_40, eX9_doubleOn_41, eX9_doubleOn_43, eX9_doubleOn_44, eX9_doubleOn_45, eX9_doubleOn_48, eX9_doubleOn_49, eX9_doubleOn_51, eX9_doubleOn_52, eX9_doubleOn_53, eX9_doubleOn_55, eX9_doubleOn_56, eX9_doubleOn_57, eX9_doubleOn_59, eX9_doubleOn_62, eX9_doubleOn_63, eX9_doubleOn_64, eX9_doubleOn_65, eX9_doubleOn_68, if_pos, if_neg, if_true, if_false, Option.bind_some, Option.toList_some, Option.toList_none, List.cons_append, List.nil_append, v8, e1]
        rw [eX9_doubleOn_10]
        simp (disch := omega) only [eX9_doubleOn_0, eX9_doubleOn_1, eX9_doubleOn_2, eX9_doubleOn_3, eX9_doubleOn_6, eX9_doubleOn_7, eX9_doubleOn_8, eX9_doubleOn_11, eX9_doubleOn_12, eX9_doubleOn_15, eX9_doubleOn_18, eX9_doubleOn_19, eX9_doubleOn_21, eX9_doubleOn_22, eX9_doubleOn_23, eX9_doubleOn_26, eX9_doubleOn_29, eX9_doubleOn_30, eX9_doubleOn_31, eX9_doubleOn_33, eX9_doubleOn_34, eX9_doubleOn_37, eX9_doubleOn_40, eX9_doubleOn_41, eX9_doubleOn_43, eX9_doubleOn_44, eX9_doubleOn_45, eX9_doubleOn_48, eX9_doubleOn_49, eX9_doubleOn_51, eX9_doubleOn_52, eX9_doubleOn_53, eX9_doubleOn_55, eX9_doubleOn_56, eX9_doubleOn_57, eX9_doubleOn_59, eX9_doubleOn_62, eX9_doubleOn_63, eX9_doubleOn_64, eX9_doubleOn_65, eX9_doubleOn_68, if_pos, if_neg, if_true, if_false, Option.bind_some, Option.toList_some, Option.toList_none, List.cons_append, List.nil_append, v8, e2]
    · rw [if_neg c]
      have e2 := z_halve (p := (p : Int)) (q := (cnt r 300 : Int)) (z := z) hE h40 hg (by omega) (by omega) (by omega) ⟨hz, by omega⟩
      simp (disch := omega) only [eX9_doubleOn_0, eX9_doubleOn_1, eX9_doubleOn_2, eX9_doubleOn_3, eX9_doubleOn_6, eX9_doubleOn_7, eX9_doubleOn_8, eX9_doubleOn_11, eX9_doubleOn_12, eX9_doubleOn_15, eX9_doubleOn_18, eX9_doubleOn_19, eX9_doubleOn_21, eX9_doubleOn_22, eX9_doubleOn_23, eX9_doubleOn_26, eX9_doubleOn_29, eX9_doubleOn_30, eX9_doubleOn_31, eX9_doubleOn_33, eX9_doubleOn_34, eX9_doubleOn_37, eX9_doubleOn_40, eX9_doubleOn_41, eX9_doubleOn_43, eX9_doubleOn_44, eX9_doubleOn_45, eX9_doubleOn_48, eX9_doubleOn_49, eX9_doubleOn_51, eX9_doubleOn_52, eX9_doubleOn_53, eX9_doubleOn_55, eX9_doubleOn_56, eX9_doubleOn_57, eX9_doubleOn_59, eX9_doubleOn_62, eX9_doubleOn_63, eX9_doubleOn_64, eX9_doubleOn_65, eX9_doubleOn_68, if_pos, if_neg, if_true, if_false, Option.bind_some, Option.toList_some, Option.toList_none, List.cons_append, List.nil_append, v8, e2]
theorem l_mLooksOf {w : Nat} {k : Nat} (hw : w < 3) (hE : Enm r (S 599)) (h40 : cnt r 300 ≤ 40) (hs : S 594 (20 + w) = (k : Int)) (hk : k < 300) (hp : 0 < r k) : ∀ (f j : Nat), j + f = cnt r k → rn xX9_looksOf (12, [some (vR 593), some (vI (w : Int)), some (vI (j : Int))], [], S) = rn xX9_looksOf (32, [some (vR 593), some (vI (w : Int)), some (vI (cnt r k : Int))], [], S) := by
  have k9 := mk.2.2.2.2.2.2.2.2.2.2.2.2.2.2.2.2
  obtain ⟨k0, a0, -, -, -, -, -, -, -, -, k99, a99, -⟩ := mk
  have hlt := cnt_lt hk hp
  have e1 := z_stands (S := S) hw
  rw [hs] at e1
  intro f
  induction f with
  | zero =>
    intro j hj
    have e : j = cnt r k := by omega
    have hK := hE k hk hp
    rw [← e] at hK ⊢
    rw [eX9_looksOf_12]
    simp (disch := omega) only [eX9_looksOf_0, eX9_looksOf_1, eX9_looksOf_2, eX9_looksOf_5, eX9_looksOf_6, eX9_looksOf_7, eX9_looksOf_10, eX9_looksOf_11, eX9_looksOf_13, eX9_looksOf_16, eX9_looksOf_17, eX9_looksOf_17x, eX9_looksOf_17y, eX9_looksOf_18, eX9_looksOf_19, eX9_looksOf_20, eX9_looksOf_23, eX9_looksOf_26, eX9_looksOf_29, eX9_looksOf_32, eX9_looksOf_33, eX9_looksOf_36, eX9_looksOf_37, eX9_looksOf_37x, eX9_looksOf_37y, eX9_looksOf_38, eX9_looksOf_41, eX9_looksOf_42, eX9_looksOf_43, eX9_looksOf_46, eX9_looksOf_49, eX9_looksOf_50, eX9_looksOf_53, eX9_looksOf_54, eX9_looksOf_54x, eX9_looksOf_54y, eX9_looksOf_55, eX9_looksOf_56, eX9_looksOf_59, eX9_looksOf_60, eX9_looksOf_61, eX9_looksOf_64, eX9_looksOf_67, eX9_looksOf_68, eX9_looksOf_69, eX9_looksOf_70, eX9_looksOf_73, eX9_looksOf_76, eX9_looksOf_77, eX9_looksOf_80, if_pos, if_neg, if_true, if_false, Option.bind_some, Option.toList_some, Option.toList_none, List.cons_append, List.nil_append, Int.toNat_natCast, e1, hK]
  | succ f ih =>
    intro j hj
    have hK := (hE.lt (g := k) (show j < cnt r 300 by omega)).mpr (by omega)
    have hb := hE.rng (show j < cnt r 300 by omega)
    rw [← ih (j + 1) (by omega), eX9_looksOf_12]
    simp (disch := omega) only [eX9_looksOf_0, eX9_looksOf_1, eX9_looksOf_2, eX9_looksOf_5, eX9_looksOf_6, eX9_looksOf_7, eX9_looksOf_10, eX9_looksOf_11, eX9_looksOf_13, eX9_looksOf_16, eX9_looksOf_17, eX9_looksOf_17x, eX9_looksOf_17y, eX9_looksOf_18, eX9_looksOf_19, eX9_looksOf_20, eX9_looksOf_23, eX9_looksOf_26, eX9_looksOf_29, eX9_looksOf_32, eX9_looksOf_33, eX9_looksOf_36, eX9_looksOf_37, eX9_looksOf_37x, eX9_looksOf_37y, eX9_looksOf_38, eX9_looksOf_41, eX9_looksOf_42, eX9_looksOf_43, eX9_looksOf_46, eX9_looksOf_49, eX9_looksOf_50, eX9_looksOf_53, eX9_looksOf_54, eX9_looksOf_54x, eX9_looksOf_54y, eX9_looksOf_55, eX9_looksOf_56, eX9_looksOf_59, eX9_looksOf_60, eX9_looksOf_61, eX9_looksOf_64, eX9_looksOf_67, eX9_looksOf_68, eX9_looksOf_69, eX9_looksOf_70, eX9_looksOf_73, eX9_looksOf_76, eX9_looksOf_77, eX9_looksOf_80, if_pos, if_neg, if_true, if_false, Option.bind_some, Option.toList_some, Option.toList_none, List.cons_append, List.nil_append, Int.toNat_natCast, e1]
    rw [show ((j : Int) + 1) = ((j + 1 : Nat) : Int) by omega]
theorem z_looksOf {w k : Nat} (hw : w < 3) (hr : r = RA (S 594) w) (hR : RB (RA (S 594))) (h40 : cnt r 300 ≤ 40) (hg : 0 ≤ S 594 5 ∧ S 594 5 ≤ 300) (h2 : 0 ≤ S 594 2 ∧ S 594 2 ≤ 2) (hs : S 594 (20 + w) = (k : Int)) (hk : k < 300) (hp : 0 < r k) : ∃ S', fX9_looksOf [vR 593, vI (w : Int)] S = some (some (vI (lks (S 594 2) (cnt r k : Int) (cnt r 300 : Int) (cnt r (S 594 5).toNat : Int))), S') ∧ (∀ j, j ≠ 8 → j ≠ 9 → S' 593 j = S 593 j) ∧ (∀ a, a ≠ 593 → a ≠ 599 → S' a = S a) := by
  have k9 := mk.2.2.2.2.2.2.2.2.2.2.2.2.2.2.2.2
  obtain ⟨k0, a0, -, -, -, -, -, -, -, -, k99, a99, -⟩ := mk
  obtain ⟨T, e1, t8, tE, tj, ta⟩ := z_layKeys (S := S) hw hr hR h40
  have t4 : T 594 = S 594 := ta 594 (by omega) (by omega)
  have hlt := cnt_lt hk hp
  have q4 : ∀ z, updM T 593 9 z 594 = S 594 := fun z => by rw [updM_ne (by omega)]; exact t4
  have q9 : ∀ z, updM T 593 9 z 593 9 = z := fun z => by rw [updM_eq, up_eq]
  have q8 : ∀ z, updM T 593 9 z 593 8 = (cnt r 300 : Int) := fun z => by rw [updM_eq, up_ne (by omega)]; exact t8
  have e2 := l_mLooksOf (S := updM T 593 9 0) (r := r) (k := k) hw (by rw [updM_ne (by omega)]; exact tE) h40 (by rw [q4]; exact hs) hk hp (cnt r k) 0 (by omega)
  have hlb := lks_b (S 594 2) (cnt r k : Int) (cnt r 300 : Int) (cnt r (S 594 5).toNat : Int)
  have n2 : (2 : Int).toNat = 2 := rfl
  refine ⟨updM T 593 9 (lks (S 594 2) (cnt r k : Int) (cnt r 300 : Int) (cnt r (S 594 5).toNat : Int)), ?_, fun j y1 y2 => by rw [updM_eq, up_ne y2]; exact tj j y1, fun a y1 y2 => by rw [updM_ne y1]; exact ta a y1 y2⟩
  rw [uX9_looksOf]
  simp (disch := omega) only [eX9_looksOf_0, eX9_looksOf_1, eX9_looksOf_2, eX9_looksOf_5, eX9_looksOf_6, eX9_looksOf_7, eX9_looksOf_10, eX9_looksOf_11, eX9_looksOf_13, eX9_looksOf_16, eX9_looksOf_17, eX9_looksOf_17x, eX9_looksOf_17y, eX9_looksOf_18, eX9_looksOf_19, eX9_looksOf_20, eX9_looksOf_23, eX9_looksOf_26, eX9_looksOf_29, eX9_looksOf_32, eX9_looksOf_33, eX9_looksOf_36, eX9_looksOf_37, eX9_looksOf_37x, eX9_looksOf_37y, eX9_looksOf_38, eX9_looksOf_41, eX9_looksOf_42, eX9_looksOf_43, eX9_looksOf_46, eX9_looksOf_49, eX9_looksOf_50, eX9_looksOf_53, eX9_looksOf_54, eX9_looksOf_54x, eX9_looksOf_54y, eX9_looksOf_55, eX9_looksOf_56, eX9_looksOf_59, eX9_looksOf_60, eX9_looksOf_61, eX9_looksOf_64, eX9_looksOf_67, eX9_looksOf_68, eX9_looksOf_69, eX9_looksOf_70, eX9_looksOf_73, eX9_looksOf_76, eX9_looksOf_77, eX9_looksOf_80, if_pos, if_neg, if_true, if_false, Option.bind_some, Option.toList_some, Option.toList_none, List.cons_append, List.nil_append, e1]
  rw [show ((0 : Nat) : Int) = 0 from rfl] at e2
  rw [e2]
  unfold lks
  rcases (show S 594 2 = 0 ∨ S 594 2 = 1 ∨ S 594 2 = 2 by omega) with c | c | c
  · have e3 := l_mWalkOn (S := T) (r := r) (f1 := (cnt r k : Int)) tE h40 (by rw [t4]; exact hg) t8 40 (cnt r k + 1) 0 (by omega) (by omega) (by omega) (by omega)
    rw [t4, Int.zero_add, show ((cnt r k + 1 : Nat) : Int) = (cnt r k : Int) + 1 by omega] at e3
    have e4 : fX9_walkOn [vR 593, vI (cnt r k : Int)] (updM T 593 9 0) = some (none, updM T 593 9 (lk0 40 ((cnt r k : Int) + 1) (cnt r 300 : Int) (cnt r (S 594 5).toNat : Int))) := by
      rw [← e3, uX9_walkOn]
      simp (disch := omega) only [eX9_walkOn_0, eX9_walkOn_1, eX9_walkOn_2, eX9_walkOn_3, eX9_walkOn_5, eX9_walkOn_6, eX9_walkOn_9, eX9_walkOn_12, eX9_walkOn_13, eX9_walkOn_14, eX9_walkOn_17, eX9_walkOn_20, eX9_walkOn_23, eX9_walkOn_26, if_pos, if_neg, if_true, if_false, Option.bind_some, Option.toList_some, Option.toList_none, List.cons_append, List.nil_append]
    rw [c, if_pos rfl]
    simp (disch := omega) only [eX9_looksOf_0, eX9_looksOf_1, eX9_looksOf_2, eX9_looksOf_5, eX9_looksOf_6, eX9_looksOf_7, eX9_looksOf_10, eX9_looksOf_11, eX9_looksOf_13, eX9_looksOf_16, eX9_looksOf_17, eX9_looksOf_17x, eX9_looksOf_17y, eX9_looksOf_18, eX9_looksOf_19, eX9_looksOf_20, eX9_looksOf_23, eX9_looksOf_26, eX9_looksOf_29, eX9_looksOf_32, eX9_looksOf_33, eX9_looksOf_36, eX9_looksOf_37, eX9_looksOf_37x, eX9_looksOf_37y, eX9_looksOf_38, eX9_looksOf_41, eX9_looksOf_42, eX9_looksOf_43, eX9_looksOf_46, eX9_looksOf_49, eX9_looksOf_50, eX9_looksOf_53, eX9_looksOf_54, eX9_looksOf_54x, eX9_looksOf_54y, eX9_looksOf_55, eX9_looksOf_56, eX9_looksOf_59, eX9_looksOf_60, eX9_looksOf_61, eX9_looksOf_64, eX9_looksOf_67, eX9_looksOf_68, eX9_looksOf_69, eX9_looksOf_70, eX9_looksOf_73, eX9_looksOf_76, eX9_looksOf_77, eX9_looksOf_80, if_pos, if_neg, if_true, if_false, Option.bind_some, Option.toList_some, Option.toList_none, List.cons_append, List.nil_append, q4, n2, c, e4, q9]
  · have e3 := l_mDoubleOn (S := T) (r := r) tE h40 (by rw [t4]; exact hg) t8 (i := cnt r k) hlt 39 1 (cnt r k) 0 (by omega) (by omega) (by omega) (by omega) (by omega) (by omega) (by omega)
    rw [t4, Int.zero_add, show ((1 : Nat) : Int) = 1 from rfl] at e3
    have e4 : fX9_doubleOn [vR 593, vI (cnt r k : Int)] (updM T 593 9 0) = some (none, updM T 593 9 (lk1 40 (cnt r k : Int) 1 (cnt r k : Int) (cnt r 300 : Int) (cnt r (S 594 5).toNat : Int))) := by
      rw [← e3, uX9_doubleOn]
      simp (disch := omega) only [eX9_doubleOn_0, eX9_doubleOn_1, eX9_doubleOn_2, eX9_doubleOn_3, eX9_doubleOn_6, eX9_doubleOn_7, eX9_doubleOn_8, eX9_doubleOn_11, eX9_doubleOn_12, eX9_doubleOn_15, eX9_doubleOn_18, eX9_doubleOn_19, eX9_doubleOn_21, eX9_doubleOn_22, eX9_doubleOn_23, eX9_doubleOn_26, eX9_doubleOn_29, eX9_doubleOn_30, eX9_doubleOn_31, eX9_doubleOn_33, eX9_doubleOn_34, eX9_doubleOn_37, eX9_doubleOn_40, eX9_doubleOn_41, eX9_doubleOn_43, eX9_doubleOn_44, eX9_doubleOn_45, eX9_doubleOn_48, eX9_doubleOn_49, eX9_doubleOn_51, eX9_doubleOn_52, eX9_doubleOn_53, eX9_doubleOn_55, eX9_doubleOn_56, eX9_doubleOn_57, eX9_doubleOn_59, eX9_doubleOn_62, eX9_doubleOn_63, eX9_doubleOn_64, eX9_doubleOn_65, eX9_doubleOn_68, if_pos, if_neg, if_true, if_false, Option.bind_some, Option.toList_some, Option.toList_none, List.cons_append, List.nil_append, q8]
    rw [c, if_neg (by omega), if_pos rfl]
    simp (disch := omega) only [eX9_looksOf_0, eX9_looksOf_1, eX9_looksOf_2, eX9_looksOf_5, eX9_looksOf_6, eX9_looksOf_7, eX9_looksOf_10, eX9_looksOf_11, eX9_looksOf_13, eX9_looksOf_16, eX9_looksOf_17, eX9_looksOf_17x, eX9_looksOf_17y, eX9_looksOf_18, eX9_looksOf_19, eX9_looksOf_20, eX9_looksOf_23, eX9_looksOf_26, eX9_looksOf_29, eX9_looksOf_32, eX9_looksOf_33, eX9_looksOf_36, eX9_looksOf_37, eX9_looksOf_37x, eX9_looksOf_37y, eX9_looksOf_38, eX9_looksOf_41, eX9_looksOf_42, eX9_looksOf_43, eX9_looksOf_46, eX9_looksOf_49, eX9_looksOf_50, eX9_looksOf_53, eX9_looksOf_54, eX9_looksOf_54x, eX9_looksOf_54y, eX9_looksOf_55, eX9_looksOf_56, eX9_looksOf_59, eX9_looksOf_60, eX9_looksOf_61, eX9_looksOf_64, eX9_looksOf_67, eX9_looksOf_68, eX9_looksOf_69, eX9_looksOf_70, eX9_looksOf_73, eX9_looksOf_76, eX9_looksOf_77, eX9_looksOf_80, if_pos, if_neg, if_true, if_false, Option.bind_some, Option.toList_some, Option.toList_none, List.cons_append, List.nil_append, q4, n2, c, e4, q9]
  · have e4 := z_halve (S := T) (r := r) (p := (cnt r k : Int)) (q := (cnt r 300 : Int)) (z := 0) tE h40 (by rw [t4]; exact hg) (by omega) (by omega) (by omega) ⟨by omega, by omega⟩
    rw [t4, Int.zero_add] at e4
    rw [c, if_neg (by omega), if_neg (by omega)]
    simp (disch := omega) only [eX9_looksOf_0, eX9_looksOf_1, eX9_looksOf_2, eX9_looksOf_5, eX9_looksOf_6, eX9_looksOf_7, eX9_looksOf_10, eX9_looksOf_11, eX9_looksOf_13, eX9_looksOf_16, eX9_looksOf_17, eX9_looksOf_17x, eX9_looksOf_17y, eX9_looksOf_18, eX9_looksOf_19, eX9_looksOf_20, eX9_looksOf_23, eX9_looksOf_26, eX9_looksOf_29, eX9_looksOf_32, eX9_looksOf_33, eX9_looksOf_36, eX9_looksOf_37, eX9_looksOf_37x, eX9_looksOf_37y, eX9_looksOf_38, eX9_looksOf_41, eX9_looksOf_42, eX9_looksOf_43, eX9_looksOf_46, eX9_looksOf_49, eX9_looksOf_50, eX9_looksOf_53, eX9_looksOf_54, eX9_looksOf_54x, eX9_looksOf_54y, eX9_looksOf_55, eX9_looksOf_56, eX9_looksOf_59, eX9_looksOf_60, eX9_looksOf_61, eX9_looksOf_64, eX9_looksOf_67, eX9_looksOf_68, eX9_looksOf_69, eX9_looksOf_70, eX9_looksOf_73, eX9_looksOf_76, eX9_looksOf_77, eX9_looksOf_80, if_pos, if_neg, if_true, if_false, Option.bind_some, Option.toList_some, Option.toList_none, List.cons_append, List.nil_append, q4, n2, c, q8, e4, q9]
end MO14
