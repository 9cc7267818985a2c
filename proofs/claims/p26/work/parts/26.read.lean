/-! the text: what it says -/
section TXT
variable (P : Nat → Int) (n : Nat)
def nx (p : Nat) : Int := if p < n then P p else 0
def kyL : Nat → Int → Nat → Int × Nat
  | 0, v, p => (v, p)
  | f + 1, v, p => if v ≠ 0 ∧ (48 ≤ nx P n p ∧ nx P n p ≤ 57) ∧ 10 * v + (nx P n p - 48) ≤ 299 then kyL f (10 * v + (nx P n p - 48)) (p + 1) else (v, p)
def ky (p : Nat) : Int × Nat := if 48 ≤ nx P n p ∧ nx P n p ≤ 57 then kyL P n 2 (nx P n p - 48) (p + 1) else (-6, p)
def stR (a b : Int) (p : Nat) : Bool × Nat × Int × Int × Int := if nx P n p = 42 then (if 49 ≤ nx P n (p + 1) ∧ nx P n (p + 1) ≤ 57 then (true, p + 2, a, b, nx P n (p + 1) - 48) else (false, p + 1, 0, 0, 0)) else (true, p, a, b, 1)
/-- a stretch of stones: whether it is whole, where the reading stops, from, to, repeats -/
def St (p : Nat) : Bool × Nat × Int × Int × Int :=
  if (ky P n p).1 = -6 then (false, p, 0, 0, 0)
  else if (ky P n p).1 ≠ 0 ∧ 48 ≤ nx P n (ky P n p).2 ∧ nx P n (ky P n p).2 ≤ 57 then (false, (ky P n p).2, 0, 0, 0)
  else if nx P n (ky P n p).2 = 45 then
    (if (ky P n ((ky P n p).2 + 1)).1 = -6 then (false, (ky P n p).2 + 1, 0, 0, 0)
     else if (ky P n ((ky P n p).2 + 1)).1 ≠ 0 ∧ 48 ≤ nx P n (ky P n ((ky P n p).2 + 1)).2 ∧ nx P n (ky P n ((ky P n p).2 + 1)).2 ≤ 57 then (false, (ky P n ((ky P n p).2 + 1)).2, 0, 0, 0)
     else stR P n (ky P n p).1 (ky P n ((ky P n p).2 + 1)).1 (ky P n ((ky P n p).2 + 1)).2)
  else stR P n (ky P n p).1 (ky P n p).1 (ky P n p).2
end TXT
section RD
variable {P : Nat → Int} {n : Nat} {S : MM}
def TX (S : MM) (P : Nat → Int) (n : Nat) : Prop := S 69 1 = (n : Int) ∧ n ≤ 80 ∧ (∀ k, k < n → S 70 k = P k) ∧ ∀ k, k < n → 33 ≤ P k ∧ P k ≤ 126
theorem k69 : kd 69 = 2 := by decide
theorem k70 : kd 70 = 12 := by decide
theorem a70 : alen 70 = 80 := by decide
theorem TX.row {S' : MM} (h : TX S P n) (h1 : S' 69 1 = S 69 1) (h2 : S' 70 = S 70) : TX S' P n := by
  obtain ⟨g1, g2, g3, g4⟩ := h
  exact ⟨by rw [h1]; exact g1, g2, by rw [h2]; exact g3, g4⟩
theorem TX.up {j : Nat} {z : Int} (h : TX S P n) (hj : j ≠ 1) : TX (updM S 69 j z) P n := h.row (by rw [updM_eq, up_ne (fun q => hj q.symm)]) (updM_ne (by omega))
theorem nx_b (h : TX S P n) (p : Nat) : 0 ≤ nx P n p ∧ nx P n p ≤ 126 := by
  unfold nx
  split
  · next y => have := h.2.2.2 p y; omega
  · omega
theorem nx_in {p : Nat} (h : nx P n p ≠ 0) : p < n := by
  unfold nx at h
  by_cases y : p < n
  · exact y
  · rw [if_neg y] at h
    exact absurd rfl h
theorem t70 : (69 : Nat) + 1 = 70 := rfl
theorem s_next (h : TX S P n) {p : Nat} (hp : S 69 2 = (p : Int)) (hp8 : p ≤ 80) : fX2_next [vR 69] S = some (some (vI (nx P n p)), S) := by
  obtain ⟨g1, g2, g3, g4⟩ := h
  have k0 := k69
  have k1 := k70
  have a1 := a70
  rw [uX2_next]
  unfold nx
  by_cases c : p < n
  · rw [if_pos c]
    have e3 := g3 p c
    have e4 := g4 p c
    have ez : S 70 (S 69 2).toNat = P p := by rw [hp, Int.toNat_natCast]; exact e3
    simp (disch := omega) only [eX2_next_0, eX2_next_1, eX2_next_4, eX2_next_7, eX2_next_8, eX2_next_11, eX2_next_12, eX2_next_15, eX2_next_18, eX2_next_19, eX2_next_22, eX2_next_23, eX2_next_26, eX2_next_27, eX2_next_30, eX2_next_31, if_pos, if_neg, if_true, if_false, Option.bind_some, Option.toList_some, Option.toList_none, List.cons_append, List.nil_append, t70, ez]
  · rw [if_neg c]
    simp (disch := omega) only [eX2_next_0, eX2_next_1, eX2_next_4, eX2_next_7, eX2_next_8, eX2_next_11, eX2_next_12, eX2_next_15, eX2_next_18, eX2_next_19, eX2_next_22, eX2_next_23, eX2_next_26, eX2_next_27, eX2_next_30, eX2_next_31, if_pos, if_neg, if_true, if_false, Option.bind_some, Option.toList_some, Option.toList_none, List.cons_append, List.nil_append]
theorem s_pass (h : TX S P n) {p : Nat} (hp : S 69 2 = (p : Int)) (hp80 : p ≤ 80) {c : Int} (hc : 1 ≤ c ∧ c ≤ 126) : fX2_pass [vR 69, vI c] S = some (if nx P n p = c then (some (vI 1), updM S 69 2 ((p + 1 : Nat) : Int)) else (some (vI 0), S)) := by
  have k0 := k69
  have e := s_next h hp hp80
  have hb := nx_b h p
  rw [uX2_pass]
  by_cases z : nx P n p = c
  · rw [if_pos z]
    simp (disch := omega) only [eX2_pass_0, eX2_pass_1, eX2_pass_4, eX2_pass_5, eX2_pass_8, eX2_pass_9, eX2_pass_10, eX2_pass_11, eX2_pass_12, eX2_pass_15, eX2_pass_16, eX2_pass_17, eX2_pass_20, eX2_pass_21, if_pos, if_neg, if_true, if_false, Option.bind_some, Option.toList_some, Option.toList_none, List.cons_append, List.nil_append, e]
    rw [hp]
    rfl
  · rw [if_neg z]
    simp (disch := omega) only [eX2_pass_0, eX2_pass_1, eX2_pass_4, eX2_pass_5, eX2_pass_8, eX2_pass_9, eX2_pass_10, eX2_pass_11, eX2_pass_12, eX2_pass_15, eX2_pass_16, eX2_pass_17, eX2_pass_20, eX2_pass_21, if_pos, if_neg, if_true, if_false, Option.bind_some, Option.toList_some, Option.toList_none, List.cons_append, List.nil_append, e]
theorem kyL_b {f : Nat} : ∀ {v : Int} {p : Nat}, 0 ≤ v ∧ v ≤ 299 → 0 ≤ (kyL P n f v p).1 ∧ (kyL P n f v p).1 ≤ 299 ∧ p ≤ (kyL P n f v p).2 ∧ (kyL P n f v p).2 ≤ p + f := by
  induction f with
  | zero => intro v p hv; exact ⟨hv.1, hv.2, Nat.le_refl _, Nat.le_refl _⟩
  | succ f ih =>
    intro v p hv
    rw [kyL]
    by_cases c : v ≠ 0 ∧ (48 ≤ nx P n p ∧ nx P n p ≤ 57) ∧ 10 * v + (nx P n p - 48) ≤ 299
    · rw [if_pos c]
      have := ih (v := 10 * v + (nx P n p - 48)) (p := p + 1) (by omega)
      omega
    · rw [if_neg c]
      exact ⟨hv.1, hv.2, Nat.le_refl _, by show p ≤ p + (f + 1); omega⟩
theorem kyL_n {f : Nat} : ∀ {v : Int} {p : Nat}, p ≤ n → (kyL P n f v p).2 ≤ n := by
  induction f with
  | zero => intro v p hp; exact hp
  | succ f ih =>
    intro v p hp
    rw [kyL]
    by_cases c : v ≠ 0 ∧ (48 ≤ nx P n p ∧ nx P n p ≤ 57) ∧ 10 * v + (nx P n p - 48) ≤ 299
    · rw [if_pos c]
      have := nx_in (P := P) (n := n) (p := p) (by omega)
      exact ih (by omega)
    · rw [if_neg c]
      exact hp
theorem ky_b {p : Nat} : ((ky P n p).1 = -6 ∧ (ky P n p).2 = p) ∨ (0 ≤ (ky P n p).1 ∧ (ky P n p).1 ≤ 299 ∧ p + 1 ≤ (ky P n p).2 ∧ (ky P n p).2 ≤ n ∧ p < n) := by
  unfold ky
  by_cases c : 48 ≤ nx P n p ∧ nx P n p ≤ 57
  · rw [if_pos c]
    have h1 := kyL_b (P := P) (n := n) (f := 2) (v := nx P n p - 48) (p := p + 1) (by omega)
    have h2 := nx_in (P := P) (n := n) (p := p) (by omega)
    have h3 := kyL_n (P := P) (n := n) (f := 2) (v := nx P n p - 48) (p := p + 1) (by omega)
    exact Or.inr ⟨h1.1, h1.2.1, h1.2.2.1, h3, h2⟩
  · rw [if_neg c]
    exact Or.inl ⟨rfl, rfl⟩
/-- the loop of readKey, with a key begun -/
theorem l_readKey : ∀ (f i : Nat) (S : MM) (v : Int) (p : Nat) (x y : Option VV), i + f = 3 → 0 < i → TX S P n → S 69 2 = (p : Int) → p ≤ 80 → (0 ≤ v ∧ v ≤ 299) → ∃ S', rn xX2_readKey (5, [some (vR 69), some (vI v), some (vI i), x, y], [], S) = some (some (vI (kyL P n f v p).1), S') ∧ S' 69 2 = ((kyL P n f v p).2 : Int) ∧ (∀ j, j ≠ 2 → S' 69 j = S 69 j) ∧ (∀ a, a ≠ 69 → S' a = S a) := by
  intro f
  induction f with
  | zero =>
    intro i S v p x y hi h0 hT hp hp8 hv
    refine ⟨S, ?_, hp, fun _ _ => rfl, fun _ _ => rfl⟩
    have e : i = 3 := by omega
    subst e
    simp (disch := omega) only [eX2_readKey_0, eX2_readKey_2, eX2_readKey_3, eX2_readKey_4, eX2_readKey_5, eX2_readKey_6, eX2_readKey_7, eX2_readKey_10, eX2_readKey_11, eX2_readKey_14, eX2_readKey_16, eX2_readKey_18, eX2_readKey_21, eX2_readKey_24, eX2_readKey_25, eX2_readKey_28, eX2_readKey_30, eX2_readKey_31, eX2_readKey_32, eX2_readKey_33, eX2_readKey_35, eX2_readKey_38, eX2_readKey_39, eX2_readKey_42, eX2_readKey_44, eX2_readKey_45, eX2_readKey_46, eX2_readKey_47, eX2_readKey_48, eX2_readKey_50, eX2_readKey_51, eX2_readKey_54, eX2_readKey_56, eX2_readKey_59, eX2_readKey_62, eX2_readKey_65, eX2_readKey_67, eX2_readKey_68, eX2_readKey_69, eX2_readKey_70, eX2_readKey_73, eX2_readKey_74, eX2_readKey_75, eX2_readKey_78, eX2_readKey_81, eX2_readKey_84, eX2_readKey_85, if_pos, if_neg, if_true, if_false, Option.bind_some, Option.toList_some, Option.toList_none, List.cons_append, List.nil_append]
    rfl
  | succ f ih =>
    intro i S v p x y hi h0 hT hp hp8 hv
    have k0 := k69
    have e := s_next hT hp hp8
    have hb := nx_b hT p
    have e1 := s_isBetween (S := S) (a := nx P n p) (b := 48) (c := 57) ⟨by omega, by omega⟩ ⟨by omega, by omega⟩ ⟨by omega, by omega⟩
    rw [kyL, eX2_readKey_5]
    by_cases d : 48 ≤ nx P n p ∧ nx P n p ≤ 57
    · rw [if_pos d] at e1
      by_cases c : v ≠ 0 ∧ (48 ≤ nx P n p ∧ nx P n p ≤ 57) ∧ 10 * v + (nx P n p - 48) ≤ 299
      · rw [if_pos c]
        have hpn := nx_in (P := P) (n := n) (p := p) (by omega)
        have hn8 := hT.2.1
        obtain ⟨S', w1, w2, w3, w4⟩ := ih (i + 1) (updM S 69 2 ((p + 1 : Nat) : Int)) (10 * v + (nx P n p - 48)) (p + 1) (some (vI (nx P n p - 48))) (some (vI (10 * v + (nx P n p - 48)))) (by omega) (by omega) (hT.up (by omega)) (by rw [updM_eq, up_eq]) (by omega) (by omega)
        refine ⟨S', ?_, w2, fun j hj => by rw [w3 j hj, updM_eq, up_ne hj], fun a ha => by rw [w4 a ha, updM_ne ha]⟩
        rw [← w1]
        simp (disch := omega) only [eX2_readKey_0, eX2_readKey_2, eX2_readKey_3, eX2_readKey_4, eX2_readKey_6, eX2_readKey_7, eX2_readKey_10, eX2_readKey_11, eX2_readKey_14, eX2_readKey_16, eX2_readKey_18, eX2_readKey_21, eX2_readKey_24, eX2_readKey_25, eX2_readKey_28, eX2_readKey_30, eX2_readKey_31, eX2_readKey_32, eX2_readKey_33, eX2_readKey_35, eX2_readKey_38, eX2_readKey_39, eX2_readKey_42, eX2_readKey_44, eX2_readKey_45, eX2_readKey_46, eX2_readKey_47, eX2_readKey_48, eX2_readKey_50, eX2_readKey_51, eX2_readKey_54, eX2_readKey_56, eX2_readKey_59, eX2_readKey_62, eX2_readKey_65, eX2_readKey_67, eX2_readKey_68, eX2_readKey_69, eX2_readKey_70, eX2_readKey_73, eX2_readKey_74, eX2_readKey_75, eX2_readKey_78, eX2_readKey_81, eX2_readKey_84, eX2_readKey_85, if_pos, if_neg, if_true, if_false, Option.bind_some, Option.toList_some, Option.toList_none, List.cons_append, List.nil_append, e, e1, hp]
        rw [show ((i : Int) + 1) = ((i + 1 : Nat) : Int) by omega, show ((p : Int) + 1) = ((p + 1 : Nat) : Int) by omega]
      · rw [if_neg c]
        refine ⟨S, ?_, hp, fun _ _ => rfl, fun _ _ => rfl⟩
        by_cases z : v = 0
        · simp (disch := omega) only [eX2_readKey_0, eX2_readKey_2, eX2_readKey_3, eX2_readKey_4, eX2_readKey_6, eX2_readKey_7, eX2_readKey_10, eX2_readKey_11, eX2_readKey_14, eX2_readKey_16, eX2_readKey_18, eX2_readKey_21, eX2_readKey_24, eX2_readKey_25, eX2_readKey_28, eX2_readKey_30, eX2_readKey_31, eX2_readKey_32, eX2_readKey_33, eX2_readKey_35, eX2_readKey_38, eX2_readKey_39, eX2_readKey_42, eX2_readKey_44, eX2_readKey_45, eX2_readKey_46, eX2_readKey_47, eX2_readKey_48, eX2_readKey_50, eX2_readKey_51, eX2_readKey_54, eX2_readKey_56, eX2_readKey_59, eX2_readKey_62, eX2_readKey_65, eX2_readKey_67, eX2_readKey_68, eX2_readKey_69, eX2_readKey_70, eX2_readKey_73, eX2_readKey_74, eX2_readKey_75, eX2_readKey_78, eX2_readKey_81, eX2_readKey_84, eX2_readKey_85, if_pos, if_neg, if_true, if_false, Option.bind_some, Option.toList_some, Option.toList_none, List.cons_append, List.nil_append, e, e1]
        · have : 299 < 10 * v + (nx P n p - 48) := by omega
          simp (disch := omega) only [eX2_readKey_0, eX2_readKey_2, eX2_readKey_3, eX2_readKey_4, eX2_readKey_6, eX2_readKey_7, eX2_readKey_10, eX2_readKey_11, eX2_readKey_14, eX2_readKey_16, eX2_readKey_18, eX2_readKey_21, eX2_readKey_24, eX2_readKey_25, eX2_readKey_28, eX2_readKey_30, eX2_readKey_31, eX2_readKey_32, eX2_readKey_33, eX2_readKey_35, eX2_readKey_38, eX2_readKey_39, eX2_readKey_42, eX2_readKey_44, eX2_readKey_45, eX2_readKey_46, eX2_readKey_47, eX2_readKey_48, eX2_readKey_50, eX2_readKey_51, eX2_readKey_54, eX2_readKey_56, eX2_readKey_59, eX2_readKey_62, eX2_readKey_65, eX2_readKey_67, eX2_readKey_68, eX2_readKey_69, eX2_readKey_70, eX2_readKey_73, eX2_readKey_74, eX2_readKey_75, eX2_readKey_78, eX2_readKey_81, eX2_readKey_84, eX2_readKey_85, if_pos, if_neg, if_true, if_false, Option.bind_some, Option.toList_some, Option.toList_none, List.cons_append, List.nil_append, e, e1]
    · rw [if_neg d] at e1
      rw [if_neg (fun q => d q.2.1)]
      refine ⟨S, ?_, hp, fun _ _ => rfl, fun _ _ => rfl⟩
      simp (disch := omega) only [eX2_readKey_0, eX2_readKey_2, eX2_readKey_3, eX2_readKey_4, eX2_readKey_6, eX2_readKey_7, eX2_readKey_10, eX2_readKey_11, eX2_readKey_14, eX2_readKey_16, eX2_readKey_18, eX2_readKey_21, eX2_readKey_24, eX2_readKey_25, eX2_readKey_28, eX2_readKey_30, eX2_readKey_31, eX2_readKey_32, eX2_readKey_33, eX2_readKey_35, eX2_readKey_38, eX2_readKey_39, eX2_readKey_42, eX2_readKey_44, eX2_readKey_45, eX2_readKey_46, eX2_readKey_47, eX2_readKey_48, eX2_readKey_50, eX2_readKey_51, eX2_readKey_54, eX2_readKey_56, eX2_readKey_59, eX2_readKey_62, eX2_readKey_65, eX2_readKey_67, eX2_readKey_68, eX2_readKey_69, eX2_readKey_70, eX2_readKey_73, eX2_readKey_74, eX2_readKey_75, eX2_readKey_78, eX2_readKey_81, eX2_readKey_84, eX2_readKey_85, if_pos, if_neg, if_true, if_false, Option.bind_some, Option.toList_some, Option.toList_none, List.cons_append, List.nil_append, e, e1]
theorem s_readKey (h : TX S P n) {p : Nat} (hp : S 69 2 = (p : Int)) (hp8 : p ≤ 80) : ∃ S', fX2_readKey [vR 69] S = some (some (vI (ky P n p).1), S') ∧ S' 69 2 = ((ky P n p).2 : Int) ∧ (∀ j, j ≠ 2 → S' 69 j = S 69 j) ∧ (∀ a, a ≠ 69 → S' a = S a) := by
  have k0 := k69
  have e := s_next h hp hp8
  have hb := nx_b h p
  have e1 := s_isBetween (S := S) (a := nx P n p) (b := 48) (c := 57) ⟨by omega, by omega⟩ ⟨by omega, by omega⟩ ⟨by omega, by omega⟩
  unfold ky
  rw [uX2_readKey]
  by_cases d : 48 ≤ nx P n p ∧ nx P n p ≤ 57
  · rw [if_pos d] at e1 ⊢
    have hpn := nx_in (P := P) (n := n) (p := p) (by omega)
    have hn8 := h.2.1
    obtain ⟨S', w1, w2, w3, w4⟩ := l_readKey (P := P) (n := n) 2 1 (updM S 69 2 ((p + 1 : Nat) : Int)) (nx P n p - 48) (p + 1) (some (vI (nx P n p - 48))) (some (vI (nx P n p - 48))) rfl (by omega) (h.up (by omega)) (by rw [updM_eq, up_eq]) (by omega) (by omega)
    refine ⟨S', ?_, w2, fun j hj => by rw [w3 j hj, updM_eq, up_ne hj], fun a ha => by rw [w4 a ha, updM_ne ha]⟩
    rw [← w1]
    simp (disch := omega) only [eX2_readKey_0, eX2_readKey_2, eX2_readKey_3, eX2_readKey_4, eX2_readKey_6, eX2_readKey_7, eX2_readKey_10, eX2_readKey_11, eX2_readKey_14, eX2_readKey_16, eX2_readKey_18, eX2_readKey_21, eX2_readKey_24, eX2_readKey_25, eX2_readKey_28, eX2_readKey_30, eX2_readKey_31, eX2_readKey_32, eX2_readKey_33, eX2_readKey_35, eX2_readKey_38, eX2_readKey_39, eX2_readKey_42, eX2_readKey_44, eX2_readKey_45, eX2_readKey_46, eX2_readKey_47, eX2_readKey_48, eX2_readKey_50, eX2_readKey_51, eX2_readKey_54, eX2_readKey_56, eX2_readKey_59, eX2_readKey_62, eX2_readKey_65, eX2_readKey_67, eX2_readKey_68, eX2_readKey_69, eX2_readKey_70, eX2_readKey_73, eX2_readKey_74, eX2_readKey_75, eX2_readKey_78, eX2_readKey_81, eX2_readKey_84, eX2_readKey_85, if_pos, if_neg, if_true, if_false, Option.bind_some, Option.toList_some, Option.toList_none, List.cons_append, List.nil_append]
    rw [eX2_readKey_5]
    simp (disch := omega) only [eX2_readKey_0, eX2_readKey_2, eX2_readKey_3, eX2_readKey_4, eX2_readKey_6, eX2_readKey_7, eX2_readKey_10, eX2_readKey_11, eX2_readKey_14, eX2_readKey_16, eX2_readKey_18, eX2_readKey_21, eX2_readKey_24, eX2_readKey_25, eX2_readKey_28, eX2_readKey_30, eX2_readKey_31, eX2_readKey_32, eX2_readKey_33, eX2_readKey_35, eX2_readKey_38, eX2_readKey_39, eX2_readKey_42, eX2_readKey_44, eX2_readKey_45, eX2_readKey_46, eX2_readKey_47, eX2_readKey_48, eX2_readKey_50, eX2_readKey_51, eX2_readKey_54, eX2_readKey_56, eX2_readKey_59, eX2_readKey_62, eX2_readKey_65, eX2_readKey_67, eX2_readKey_68, eX2_readKey_69, eX2_readKey_70, eX2_readKey_73, eX2_readKey_74, eX2_readKey_75, eX2_readKey_78, eX2_readKey_81, eX2_readKey_84, eX2_readKey_85, if_pos, if_neg, if_true, if_false, Option.bind_some, Option.toList_some, Option.toList_none, List.cons_append, List.nil_append, e, e1, hp, ta1]
    rfl
  · rw [if_neg d] at e1 ⊢
    refine ⟨S, ?_, hp, fun _ _ => rfl, fun _ _ => rfl⟩
    simp (disch := omega) only [eX2_readKey_0, eX2_readKey_2, eX2_readKey_3, eX2_readKey_4, eX2_readKey_6, eX2_readKey_7, eX2_readKey_10, eX2_readKey_11, eX2_readKey_14, eX2_readKey_16, eX2_readKey_18, eX2_readKey_21, eX2_readKey_24, eX2_readKey_25, eX2_readKey_28, eX2_readKey_30, eX2_readKey_31, eX2_readKey_32, eX2_readKey_33, eX2_readKey_35, eX2_readKey_38, eX2_readKey_39, eX2_readKey_42, eX2_readKey_44, eX2_readKey_45, eX2_readKey_46, eX2_readKey_47, eX2_readKey_48, eX2_readKey_50, eX2_readKey_51, eX2_readKey_54, eX2_readKey_56, eX2_readKey_59, eX2_readKey_62, eX2_readKey_65, eX2_readKey_67, eX2_readKey_68, eX2_readKey_69, eX2_readKey_70, eX2_readKey_73, eX2_readKey_74, eX2_readKey_75, eX2_readKey_78, eX2_readKey_81, eX2_readKey_84, eX2_readKey_85, if_pos, if_neg, if_true, if_false, Option.bind_some, Option.toList_some, Option.toList_none, List.cons_append, List.nil_append]
    rw [eX2_readKey_5]
    simp (disch := omega) only [eX2_readKey_0, eX2_readKey_2, eX2_readKey_3, eX2_readKey_4, eX2_readKey_6, eX2_readKey_7, eX2_readKey_10, eX2_readKey_11, eX2_readKey_14, eX2_readKey_16, eX2_readKey_18, eX2_readKey_21, eX2_readKey_24, eX2_readKey_25, eX2_readKey_28, eX2_readKey_30, eX2_readKey_31, eX2_readKey_32, eX2_readKey_33, eX2_readKey_35, eX2_readKey_38, eX2_readKey_39, eX2_readKey_42, eX2_readKey_44, eX2_readKey_45, eX2_readKey_46, eX2_readKey_47, eX2_readKey_48, eX2_readKey_50, eX2_readKey_51, eX2_readKey_54, eX2_readKey_56, eX2_readKey_59, eX2_readKey_62, eX2_readKey_65, eX2_readKey_67, eX2_readKey_68, eX2_readKey_69, eX2_readKey_70, eX2_readKey_73, eX2_readKey_74, eX2_readKey_75, eX2_readKey_78, eX2_readKey_81, eX2_readKey_84, eX2_readKey_85, if_pos, if_neg, if_true, if_false, Option.bind_some, Option.toList_some, Option.toList_none, List.cons_append, List.nil_append, e, e1]
end RD
