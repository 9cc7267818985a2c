/-! putting signs -/
section PUT
variable {S S' : MM} {A A' : Nat → Int} {m : Nat} {H : Nat → Nat → Int} {K : Nat → Int} {V : Nat → Nat → Int} {P : Nat → Int} {n : Nat}
def byt (u i : Nat) : Nat := u / 2 ^ (8 * i) % 256
theorem byt_b (u i : Nat) : byt u i < 256 := Nat.mod_lt _ (by omega)
theorem s_signOf {u i : Nat} (hu : u < 18446744073709551616) (hi : i < 8) : fX8_signOf [vJ u, vI (i : Int)] S = some (some (vI ((byt u i : Nat) : Int)), S) := by
  have hq : u / 2 ^ (8 * i) < 18446744073709551616 := Nat.lt_of_le_of_lt (Nat.div_le_self _ _) hu
  have ha : u / 2 ^ (8 * i) &&& 255 = byt u i := Nat.and_two_pow_sub_one_eq_mod (u / 2 ^ (8 * i)) 8
  have hb := byt_b u i
  have ht : ((8 : Int) * (i : Int)).toNat = 8 * i := by omega
  have hm : Int.bmod ((byt u i : Nat) : Int) 4294967296 = ((byt u i : Nat) : Int) := by
    rw [Int.bmod_def]
    split <;> omega
  have hm2 : ((byt u i : Nat) : Int) % 65536 = ((byt u i : Nat) : Int) := by omega
  rw [uX8_signOf]
  simp (disch := omega) only [eX8_signOf_0, eX8_signOf_1, eX8_signOf_3, eX8_signOf_4, eX8_signOf_5, eX8_signOf_6, eX8_signOf_9, eX8_signOf_10, eX8_signOf_11, eX8_signOf_12, if_pos, if_neg, if_true, if_false, Option.bind_some, Option.toList_some, Option.toList_none, List.cons_append, List.nil_append, ht, ha, hm, hm2]
def siF (u : Nat) : Nat → Nat → Int
  | 0, _ => 8
  | f + 1, i => if byt u i = 0 then (if u / 2 ^ (8 * i) = 0 then (i : Int) else -2) else if 33 ≤ byt u i ∧ byt u i ≤ 126 then siF u f (i + 1) else -2
theorem siF_b {u : Nat} : ∀ {f i : Nat}, i + f = 8 → (siF u f i = -2 ∨ ((i : Int) ≤ siF u f i ∧ siF u f i ≤ 8 ∧ ∀ j : Nat, i ≤ j → (j : Int) < siF u f i → 33 ≤ byt u j ∧ byt u j ≤ 126)) := by
  intro f
  induction f with
  | zero =>
    intro i hi
    rw [siF]
    exact Or.inr ⟨by omega, by omega, fun j h1 h2 => by omega⟩
  | succ f ih =>
    intro i hi
    rw [siF]
    by_cases c : byt u i = 0
    · rw [if_pos c]
      by_cases d : u / 2 ^ (8 * i) = 0
      · rw [if_pos d]
        exact Or.inr ⟨by omega, by omega, fun j h1 h2 => by omega⟩
      · rw [if_neg d]
        exact Or.inl rfl
    · rw [if_neg c]
      by_cases d : 33 ≤ byt u i ∧ byt u i ≤ 126
      · rw [if_pos d]
        rcases ih (i := i + 1) (by omega) with y | ⟨y1, y2, y3⟩
        · exact Or.inl y
        · refine Or.inr ⟨by omega, y2, fun j h1 h2 => ?_⟩
          by_cases e : j = i
          · rw [e]
            exact d
          · exact y3 j (by omega) h2
      · rw [if_neg d]
        exact Or.inl rfl
theorem l_signsIn {u : Nat} (hu : u < 18446744073709551616) : ∀ (f i : Nat) (x : Option VV), i + f = 8 → rn xX8_signsIn (2, [some (vJ u), none, some (vI i), x], [], S) = some (some (vI (siF u f i)), S) := by
  intro f
  induction f with
  | zero =>
    intro i x hi
    have e : i = 8 := by omega
    subst e
    rw [eX8_signsIn_2, siF]
    simp (disch := omega) only [eX8_signsIn_0, eX8_signsIn_1, eX8_signsIn_3, eX8_signsIn_5, eX8_signsIn_8, eX8_signsIn_9, eX8_signsIn_10, eX8_signsIn_13, eX8_signsIn_14, eX8_signsIn_15, eX8_signsIn_18, eX8_signsIn_19, eX8_signsIn_21, eX8_signsIn_22, eX8_signsIn_23, eX8_signsIn_24, eX8_signsIn_25, eX8_signsIn_26, eX8_signsIn_29, eX8_signsIn_30, eX8_signsIn_33, eX8_signsIn_35, eX8_signsIn_36, eX8_signsIn_37, eX8_signsIn_39, eX8_signsIn_41, eX8_signsIn_44, eX8_signsIn_47, eX8_signsIn_49, eX8_signsIn_50, eX8_signsIn_53, eX8_signsIn_56, eX8_signsIn_58, if_pos, if_neg, if_true, if_false, Option.bind_some, Option.toList_some, Option.toList_none, List.cons_append, List.nil_append]
  | succ f ih =>
    intro i x hi
    have e1 := s_signOf (S := S) (i := i) hu (by omega)
    have hb := byt_b u i
    have e2 := s_isBetween (S := S) (a := ((byt u i : Nat) : Int)) (b := 33) (c := 126) ⟨by omega, by omega⟩ ⟨by omega, by omega⟩ ⟨by omega, by omega⟩
    have ht : ((8 : Int) * (i : Int)).toNat = 8 * i := by omega
    have hq : u / 2 ^ (8 * i) < 18446744073709551616 := Nat.lt_of_le_of_lt (Nat.div_le_self _ _) hu
    rw [siF, eX8_signsIn_2]
    by_cases c : byt u i = 0
    · rw [if_pos c]
      by_cases d : u / 2 ^ (8 * i) = 0
      · rw [if_pos d]
        simp (disch := omega) only [eX8_signsIn_0, eX8_signsIn_1, eX8_signsIn_3, eX8_signsIn_5, eX8_signsIn_8, eX8_signsIn_9, eX8_signsIn_10, eX8_signsIn_13, eX8_signsIn_14, eX8_signsIn_15, eX8_signsIn_18, eX8_signsIn_19, eX8_signsIn_21, eX8_signsIn_22, eX8_signsIn_23, eX8_signsIn_24, eX8_signsIn_25, eX8_signsIn_26, eX8_signsIn_29, eX8_signsIn_30, eX8_signsIn_33, eX8_signsIn_35, eX8_signsIn_36, eX8_signsIn_37, eX8_signsIn_39, eX8_signsIn_41, eX8_signsIn_44, eX8_signsIn_47, eX8_signsIn_49, eX8_signsIn_50, eX8_signsIn_53, eX8_signsIn_56, eX8_signsIn_58, if_pos, if_neg, if_true, if_false, Option.bind_some, Option.toList_some, Option.toList_none, List.cons_append, List.nil_append, e1, ht]
      · rw [if_neg d]
        have hz : (if sgn (u / 2 ^ (8 * i)) < sgn 0 then (-1 : Int) else 1) ≠ 0 ∧ -1 ≤ (if sgn (u / 2 ^ (8 * i)) < sgn 0 then (-1 : Int) else 1) ∧ (if sgn (u / 2 ^ (8 * i)) < sgn 0 then (-1 : Int) else 1) ≤ 1 := by split <;> omega
        simp (disch := omega) only [eX8_signsIn_0, eX8_signsIn_1, eX8_signsIn_3, eX8_signsIn_5, eX8_signsIn_8, eX8_signsIn_9, eX8_signsIn_10, eX8_signsIn_13, eX8_signsIn_14, eX8_signsIn_15, eX8_signsIn_18, eX8_signsIn_19, eX8_signsIn_21, eX8_signsIn_22, eX8_signsIn_23, eX8_signsIn_24, eX8_signsIn_25, eX8_signsIn_26, eX8_signsIn_29, eX8_signsIn_30, eX8_signsIn_33, eX8_signsIn_35, eX8_signsIn_36, eX8_signsIn_37, eX8_signsIn_39, eX8_signsIn_41, eX8_signsIn_44, eX8_signsIn_47, eX8_signsIn_49, eX8_signsIn_50, eX8_signsIn_53, eX8_signsIn_56, eX8_signsIn_58, if_pos, if_neg, if_true, if_false, Option.bind_some, Option.toList_some, Option.toList_none, List.cons_append, List.nil_append, e1, ht]
    · rw [if_neg c]
      by_cases d : 33 ≤ byt u i ∧ byt u i ≤ 126
      · rw [if_pos d]
        rw [if_pos (by omega)] at e2
        rw [← ih (i + 1) (some (vI ((byt u i : Nat) : Int))) (by omega)]
        simp (disch := omega) only [eX8_signsIn_0, eX8_signsIn_1, eX8_signsIn_3, eX8_signsIn_5, eX8_signsIn_8, eX8_signsIn_9, eX8_signsIn_10, eX8_signsIn_13, eX8_signsIn_14, eX8_signsIn_15, eX8_signsIn_18, eX8_signsIn_19, eX8_signsIn_21, eX8_signsIn_22, eX8_signsIn_23, eX8_signsIn_24, eX8_signsIn_25, eX8_signsIn_26, eX8_signsIn_29, eX8_signsIn_30, eX8_signsIn_33, eX8_signsIn_35, eX8_signsIn_36, eX8_signsIn_37, eX8_signsIn_39, eX8_signsIn_41, eX8_signsIn_44, eX8_signsIn_47, eX8_signsIn_49, eX8_signsIn_50, eX8_signsIn_53, eX8_signsIn_56, eX8_signsIn_58, if_pos, if_neg, if_true, if_false, Option.bind_some, Option.toList_some, Option.toList_none, List.cons_append, List.nil_append, e1, e2]
        rw [show ((i : Int) + 1) = ((i + 1 : Nat) : Int) by omega]
      · rw [if_neg d]
        rw [if_neg (by omega)] at e2
        simp (disch := omega) only [eX8_signsIn_0, eX8_signsIn_1, eX8_signsIn_3, eX8_signsIn_5, eX8_signsIn_8, eX8_signsIn_9, eX8_signsIn_10, eX8_signsIn_13, eX8_signsIn_14, eX8_signsIn_15, eX8_signsIn_18, eX8_signsIn_19, eX8_signsIn_21, eX8_signsIn_22, eX8_signsIn_23, eX8_signsIn_24, eX8_signsIn_25, eX8_signsIn_26, eX8_signsIn_29, eX8_signsIn_30, eX8_signsIn_33, eX8_signsIn_35, eX8_signsIn_36, eX8_signsIn_37, eX8_signsIn_39, eX8_signsIn_41, eX8_signsIn_44, eX8_signsIn_47, eX8_signsIn_49, eX8_signsIn_50, eX8_signsIn_53, eX8_signsIn_56, eX8_signsIn_58, if_pos, if_neg, if_true, if_false, Option.bind_some, Option.toList_some, Option.toList_none, List.cons_append, List.nil_append, e1, e2]
theorem s_signsIn {u : Nat} (hu : u < 18446744073709551616) : fX8_signsIn [vJ u] S = some (some (vI (siF u 8 0)), S) := by
  rw [← l_signsIn hu 8 0 none rfl, uX8_signsIn]
  simp (disch := omega) only [eX8_signsIn_0, eX8_signsIn_1, eX8_signsIn_3, eX8_signsIn_5, eX8_signsIn_8, eX8_signsIn_9, eX8_signsIn_10, eX8_signsIn_13, eX8_signsIn_14, eX8_signsIn_15, eX8_signsIn_18, eX8_signsIn_19, eX8_signsIn_21, eX8_signsIn_22, eX8_signsIn_23, eX8_signsIn_24, eX8_signsIn_25, eX8_signsIn_26, eX8_signsIn_29, eX8_signsIn_30, eX8_signsIn_33, eX8_signsIn_35, eX8_signsIn_36, eX8_signsIn_37, eX8_signsIn_39, eX8_signsIn_41, eX8_signsIn_44, eX8_signsIn_47, eX8_signsIn_49, eX8_signsIn_50, eX8_signsIn_53, eX8_signsIn_56, eX8_signsIn_58, if_pos, if_neg, if_true, if_false, Option.bind_some, Option.toList_some, Option.toList_none, List.cons_append, List.nil_append]
  rfl
def putP (P : Nat → Int) (n u r : Nat) : Nat → Int := fun k => if k < n then P k else ((byt u (r - 1 - (k - n)) : Nat) : Int)
theorem s_append {c : Int} {k : Nat} (hn : S 69 1 = (k : Int)) (hk : k < 80) (hc : 0 ≤ c ∧ c ≤ 65535) : fX2_append [vR 69, vI c] S = some (none, updM (updM S 70 k c) 69 1 ((k + 1 : Nat) : Int)) := by
  have k0 := k69
  have k1 := k70
  have a1 := a70
  have e1 : updM S 70 k c 69 1 = (k : Int) := by rw [updM_ne (by omega)]; exact hn
  rw [uX2_append]
  simp (disch := omega) only [eX2_append_0, eX2_append_1, eX2_append_4, eX2_append_6, eX2_append_9, eX2_append_10, eX2_append_13, eX2_append_14, eX2_append_17, eX2_append_18, eX2_append_19, eX2_append_20, eX2_append_21, eX2_append_24, eX2_append_25, eX2_append_26, eX2_append_29, if_pos, if_neg, if_true, if_false, Option.bind_some, Option.toList_some, Option.toList_none, List.cons_append, List.nil_append, t70, hn, Int.toNat_natCast, e1]
  rfl
theorem l_put {u r : Nat} (hu : u < 18446744073709551616) (hr : r ≤ 8) (hn : n + r ≤ 80) (x : Option VV) : ∀ (f : Nat) (T : MM), f ≤ r → T 69 1 = ((n + (r - f) : Nat) : Int) → (∀ k, k < n + (r - f) → T 70 k = putP P n u r k) → (∀ a, a ≠ 69 → a ≠ 70 → T a = S a) → ∃ S', rn xX8_put (35, [some (vR 0), some (vJ u), x, some (vI r), some (vI ((f : Int) - 1))], [], T) = some (some (vI ((n + r : Nat) : Int)), S') ∧ S' 69 1 = ((n + r : Nat) : Int) ∧ (∀ k, k < n + r → S' 70 k = putP P n u r k) ∧ (∀ a, a ≠ 69 → a ≠ 70 → S' a = S a) := by
  intro f
  induction f with
  | zero =>
    intro T hf h1 h2 h3
    have k0 := k69
    have e1 : fX2_length [vR 69] T = some (some (vI (T 69 1)), T) := by
      rw [uX2_length]
      simp (disch := omega) only [eX2_length_0, eX2_length_1, eX2_length_4, if_pos, if_neg, if_true, if_false, Option.bind_some, Option.toList_some, Option.toList_none, List.cons_append, List.nil_append]
    rw [h1] at e1
    refine ⟨T, ?_, h1, h2, h3⟩
    rw [eX8_put_35]
    simp (disch := omega) only [eX8_put_0, eX8_put_1, eX8_put_4, eX8_put_5, eX8_put_6, eX8_put_7, eX8_put_10, eX8_put_12, eX8_put_13, eX8_put_14, eX8_put_17, eX8_put_20, eX8_put_21, eX8_put_22, eX8_put_24, eX8_put_27, eX8_put_29, eX8_put_30, eX8_put_31, eX8_put_32, eX8_put_33, eX8_put_37, eX8_put_40, eX8_put_41, eX8_put_44, eX8_put_45, eX8_put_47, eX8_put_50, eX8_put_53, eX8_put_56, eX8_put_59, eX8_put_60, eX8_put_63, eX8_put_66, if_pos, if_neg, if_true, if_false, Option.bind_some, Option.toList_some, Option.toList_none, List.cons_append, List.nil_append, e1]
    rfl
  | succ f ih =>
    intro T hf h1 h2 h3
    have k0 := k69
    have hi : ((f + 1 : Nat) : Int) - 1 = (f : Int) := by omega
    have e1 := s_signOf (S := T) (i := f) hu (by omega)
    have hb := byt_b u f
    have e2 := s_append (S := T) (c := ((byt u f : Nat) : Int)) h1 (by omega) (by omega)
    obtain ⟨S', w1, w2⟩ := ih (updM (updM T 70 (n + (r - (f + 1))) ((byt u f : Nat) : Int)) 69 1 ((n + (r - (f + 1)) + 1 : Nat) : Int)) (by omega) (by rw [updM_eq, up_eq, show n + (r - (f + 1)) + 1 = n + (r - f) by omega]) (fun k hk => by
      rw [updM_ne (by omega), updM_eq]
      by_cases y : k = n + (r - (f + 1))
      · rw [y, up_eq]
        unfold putP
        rw [if_neg (by omega), show r - 1 - (n + (r - (f + 1)) - n) = f by omega]
      · rw [up_ne y]
        exact h2 k (by omega)) (fun a y1 y2 => by rw [updM_ne y1, updM_ne y2]; exact h3 a y1 y2)
    refine ⟨S', ?_, w2⟩
    rw [← w1, eX8_put_35, hi]
    simp (disch := omega) only [eX8_put_0, eX8_put_1, eX8_put_4, eX8_put_5, eX8_put_6, eX8_put_7, eX8_put_10, eX8_put_12, eX8_put_13, eX8_put_14, eX8_put_17, eX8_put_20, eX8_put_21, eX8_put_22, eX8_put_24, eX8_put_27, eX8_put_29, eX8_put_30, eX8_put_31, eX8_put_32, eX8_put_33, eX8_put_37, eX8_put_40, eX8_put_41, eX8_put_44, eX8_put_45, eX8_put_47, eX8_put_50, eX8_put_53, eX8_put_56, eX8_put_59, eX8_put_60, eX8_put_63, eX8_put_66, if_pos, if_neg, if_true, if_false, Option.bind_some, Option.toList_some, Option.toList_none, List.cons_append, List.nil_append, e1, e2]
    rfl
theorem s_putX {u : Nat} (hu : u < 18446744073709551616) (hr : siF u 8 0 < 1) : fX8_put [vR 0, vJ u] S = some (some (vI (-2)), S) := by
  have e1 := s_signsIn (S := S) hu
  have hb := siF_b (u := u) (f := 8) (i := 0) rfl
  have hb2 : -2 ≤ siF u 8 0 := by
    rcases hb with y | y
    · omega
    · omega
  rw [uX8_put]
  simp (disch := omega) only [eX8_put_0, eX8_put_1, eX8_put_4, eX8_put_5, eX8_put_6, eX8_put_7, eX8_put_10, eX8_put_12, eX8_put_13, eX8_put_14, eX8_put_17, eX8_put_20, eX8_put_21, eX8_put_22, eX8_put_24, eX8_put_27, eX8_put_29, eX8_put_30, eX8_put_31, eX8_put_32, eX8_put_33, eX8_put_37, eX8_put_40, eX8_put_41, eX8_put_44, eX8_put_45, eX8_put_47, eX8_put_50, eX8_put_53, eX8_put_56, eX8_put_59, eX8_put_60, eX8_put_63, eX8_put_66, if_pos, if_neg, if_true, if_false, Option.bind_some, Option.toList_some, Option.toList_none, List.cons_append, List.nil_append, e1]
theorem s_putT {u : Nat} (h : XIs S A m H K V P n) (hu : u < 18446744073709551616) (hr : 1 ≤ siF u 8 0) (ht : 80 < (n : Int) + siF u 8 0) : fX8_put [vR 0, vJ u] S = some (some (vI (-4)), S) := by
  have k0 := k69
  have e1 := s_signsIn (S := S) hu
  have hb := siF_b (u := u) (f := 8) (i := 0) rfl
  have hb2 : siF u 8 0 ≤ 8 := by
    rcases hb with y | y
    · omega
    · exact y.2.1
  have hn := h.2.2.2.2.2.1
  have hn8 := h.2.2.2.2.2.2.1
  have e2 : fX2_length [vR 69] S = some (some (vI (S 69 1)), S) := by
    rw [uX2_length]
    simp (disch := omega) only [eX2_length_0, eX2_length_1, eX2_length_4, if_pos, if_neg, if_true, if_false, Option.bind_some, Option.toList_some, Option.toList_none, List.cons_append, List.nil_append]
  rw [hn] at e2
  rw [uX8_put]
  simp (disch := omega) only [eX8_put_0, eX8_put_1, eX8_put_4, eX8_put_5, eX8_put_6, eX8_put_7, eX8_put_10, eX8_put_12, eX8_put_13, eX8_put_14, eX8_put_17, eX8_put_20, eX8_put_21, eX8_put_22, eX8_put_24, eX8_put_27, eX8_put_29, eX8_put_30, eX8_put_31, eX8_put_32, eX8_put_33, eX8_put_37, eX8_put_40, eX8_put_41, eX8_put_44, eX8_put_45, eX8_put_47, eX8_put_50, eX8_put_53, eX8_put_56, eX8_put_59, eX8_put_60, eX8_put_63, eX8_put_66, if_pos, if_neg, if_true, if_false, Option.bind_some, Option.toList_some, Option.toList_none, List.cons_append, List.nil_append, e1, e2]
theorem s_put {u : Nat} (h : XIs S A m H K V P n) (hu : u < 18446744073709551616) (hr : 1 ≤ siF u 8 0) (ht : (n : Int) + siF u 8 0 ≤ 80) : ∃ S', fX8_put [vR 0, vJ u] S = some (some (vI ((n : Int) + siF u 8 0)), S') ∧ XIs S' A m H K V (putP P n u (siF u 8 0).toNat) (n + (siF u 8 0).toNat) ∧ (∀ a, 593 ≤ a → S' a = S a) := by
  have k0 := k69
  have e1 := s_signsIn (S := S) hu
  have hb : siF u 8 0 ≤ 8 ∧ ∀ j : Nat, (j : Int) < siF u 8 0 → 33 ≤ byt u j ∧ byt u j ≤ 126 := by
    rcases siF_b (u := u) (f := 8) (i := 0) rfl with y | y
    · omega
    · exact ⟨y.2.1, fun j hj => y.2.2 j (by omega) hj⟩
  obtain ⟨r, hrr⟩ : ∃ r : Nat, siF u 8 0 = (r : Int) := ⟨(siF u 8 0).toNat, by omega⟩
  rw [hrr] at e1 hr ht hb ⊢
  rw [Int.toNat_natCast]
  obtain ⟨i1, i2, i3, i4, i5, i6⟩ := h
  obtain ⟨p1, p2, p3, p4⟩ := i6
  have e2 : fX2_length [vR 69] S = some (some (vI (S 69 1)), S) := by
    rw [uX2_length]
    simp (disch := omega) only [eX2_length_0, eX2_length_1, eX2_length_4, if_pos, if_neg, if_true, if_false, Option.bind_some, Option.toList_some, Option.toList_none, List.cons_append, List.nil_append]
  rw [p1] at e2
  obtain ⟨S', w1, w2, w3', w4⟩ := l_put (S := S) (P := P) (n := n) (u := u) (r := r) hu (by omega) (by omega) none r S (Nat.le_refl _) (by rw [p1]; omega) (fun k hk => by unfold putP; rw [if_pos (by omega)]; exact p3 k (by omega)) (fun _ _ _ => rfl)
  refine ⟨S', ?_, ⟨i1.rows (fun a _ _ => w4 a (by omega) (by omega)), i2.keep (w4 _ (by omega) (by omega)) (w4 _ (by omega) (by omega)), i3.rows (fun a _ _ y1 y2 => w4 a y1 y2), i4.rows (w4 _ (by omega) (by omega)) (fun a _ _ => w4 a (by omega) (by omega)), ⟨by rw [w4 16 (by omega) (by omega)]; exact i5.1, fun i hi => by rw [w4 _ (by omega) (by omega)]; exact i5.2 i hi⟩, ⟨w2, by omega, w3', fun k hk => ?_⟩⟩, fun a ha => w4 a (by omega) (by omega)⟩
  · rw [uX8_put]
    simp (disch := omega) only [eX8_put_0, eX8_put_1, eX8_put_4, eX8_put_5, eX8_put_6, eX8_put_7, eX8_put_10, eX8_put_12, eX8_put_13, eX8_put_14, eX8_put_17, eX8_put_20, eX8_put_21, eX8_put_22, eX8_put_24, eX8_put_27, eX8_put_29, eX8_put_30, eX8_put_31, eX8_put_32, eX8_put_33, eX8_put_37, eX8_put_40, eX8_put_41, eX8_put_44, eX8_put_45, eX8_put_47, eX8_put_50, eX8_put_53, eX8_put_56, eX8_put_59, eX8_put_60, eX8_put_63, eX8_put_66, if_pos, if_neg, if_true, if_false, Option.bind_some, Option.toList_some, Option.toList_none, List.cons_append, List.nil_append, e1, e2]
    rw [w1]
    rfl
  · unfold putP
    by_cases y : k < n
    · rw [if_pos y]
      exact p4 k y
    · rw [if_neg y]
      have := hb.2 (r - 1 - (k - n)) (by omega)
      omega
end PUT
