/-! the reference: reading signs -/
section MO22
variable {S : MM} {P : Nat → Int} {n : Nat}
/-- where the reading is, and whether the text is wrong -/
def PS (S : MM) (p b : Int) : MM := fun a k => if a = 593 then (if k = 12 then p else if k = 13 then b else S a k) else S a k
theorem ps12 {p b : Int} : PS S p b 593 12 = p := rfl
theorem ps13 {p b : Int} : PS S p b 593 13 = b := rfl
theorem psk {p b : Int} {k : Nat} (h : k ≠ 12) (h2 : k ≠ 13) : PS S p b 593 k = S 593 k := by
  unfold PS
  rw [if_pos rfl, if_neg h, if_neg h2]
theorem psa {p b : Int} {a : Nat} (h : a ≠ 593) : PS S p b a = S a := by
  funext k
  unfold PS
  rw [if_neg h]
theorem ps11 {p b : Int} : PS S p b 593 11 = S 593 11 := rfl
theorem ps14 {p b : Int} : PS S p b 593 14 = S 593 14 := rfl
theorem ps15 {p b : Int} : PS S p b 593 15 = S 593 15 := rfl
theorem ps600 {p b : Int} : PS S p b 600 = S 600 := rfl
theorem pu12 {p b q : Int} : updM (PS S p b) 593 12 q = PS S q b := by
  funext a k
  unfold updM PS
  by_cases h : a = 593
  · by_cases c : k = 12
    · rw [if_pos ⟨h, c⟩, if_pos h, if_pos c]
    · rw [if_neg (fun y => c y.2), if_pos h, if_pos h, if_neg c, if_neg c]
  · rw [if_neg (fun y => h y.1), if_neg h, if_neg h]
theorem pu13 {p b q : Int} : updM (PS S p b) 593 13 q = PS S p q := by
  funext a k
  unfold updM PS
  by_cases h : a = 593
  · by_cases c : k = 13
    · rw [if_pos ⟨h, c⟩, if_pos h, if_neg (by omega), if_pos c]
    · rw [if_neg (fun y => c y.2), if_pos h, if_pos h, if_neg c]
      by_cases d : k = 12
      · rw [if_pos d, if_pos d]
      · rw [if_neg d, if_neg d, if_neg c]
  · rw [if_neg (fun y => h y.1), if_neg h, if_neg h]
theorem puk {p b q : Int} {k : Nat} (h : k ≠ 12) (h2 : k ≠ 13) : updM (PS S p b) 593 k q = PS (updM S 593 k q) p b := by
  funext a j
  show (if a = 593 ∧ j = k then q else (if a = 593 then (if j = 12 then p else if j = 13 then b else S a j) else S a j)) = if a = 593 then (if j = 12 then p else if j = 13 then b else (if a = 593 ∧ j = k then q else S a j)) else (if a = 593 ∧ j = k then q else S a j)
  by_cases c : a = 593
  · by_cases d : j = k
    · simp only [if_pos (show a = 593 ∧ j = k from ⟨c, d⟩), if_pos c, if_neg (show ¬ j = 12 by omega), if_neg (show ¬ j = 13 by omega)]
    · simp only [if_neg (show ¬ (a = 593 ∧ j = k) from fun y => d y.2)]
  · simp only [if_neg (show ¬ (a = 593 ∧ j = k) from fun y => c y.1)]
theorem pu601 {p b q : Int} {k : Nat} : updM (PS S p b) 601 k q = PS (updM S 601 k q) p b := by
  funext a j
  show (if a = 601 ∧ j = k then q else (if a = 593 then (if j = 12 then p else if j = 13 then b else S a j) else S a j)) = if a = 593 then (if j = 12 then p else if j = 13 then b else (if a = 601 ∧ j = k then q else S a j)) else (if a = 601 ∧ j = k then q else S a j)
  by_cases c : a = 593
  · simp only [if_neg (show ¬ (a = 601 ∧ j = k) from fun y => by omega)]
  · by_cases d : a = 601 ∧ j = k
    · simp only [if_pos d, if_neg c]
    · simp only [if_neg d]
def RT (S : MM) (P : Nat → Int) (n : Nat) : Prop := S 593 11 = (n : Int) ∧ n ≤ 80 ∧ ∀ k, k < n → S 600 k = P k ∧ 33 ≤ P k ∧ P k ≤ 126
theorem rx_b (h : RT S P n) (p : Nat) : 0 ≤ nx P n p ∧ nx P n p ≤ 126 := by
  unfold nx
  split
  · next y => have := h.2.2 p y; omega
  · omega
theorem k9_ : kd 593 = 9 ∧ kd 600 = 10 ∧ alen 600 = 80 ∧ kd 601 = 10 ∧ alen 601 = 252 := by decide +kernel
theorem z_next {p : Nat} {b : Int} (h : RT S P n) (hp : p ≤ 80) : fX9_next [vR 593] (PS S (p : Int) b) = some (some (vI (nx P n p)), PS S (p : Int) b) := by
  obtain ⟨k9, k6, a6, -⟩ := k9_
  obtain ⟨g1, g2, g3⟩ := h
  rw [uX9_next]
  unfold nx
  by_cases c : p < n
  · rw [if_pos c]
    have e3 := (g3 p c).1
    simp (disch := omega) only [eX9_next_0, eX9_next_1, eX9_next_4, eX9_next_5, eX9_next_8, eX9_next_11, eX9_next_12, eX9_next_15, eX9_next_16, eX9_next_19, eX9_next_19x, eX9_next_19y, eX9_next_20, eX9_next_23, eX9_next_24, if_pos, if_neg, if_true, if_false, Option.bind_some, Option.toList_some, Option.toList_none, List.cons_append, List.nil_append, ps12, ps11, g1, ps600, Int.toNat_natCast, e3]
  · rw [if_neg c]
    simp (disch := omega) only [eX9_next_0, eX9_next_1, eX9_next_4, eX9_next_5, eX9_next_8, eX9_next_11, eX9_next_12, eX9_next_15, eX9_next_16, eX9_next_19, eX9_next_19x, eX9_next_19y, eX9_next_20, eX9_next_23, eX9_next_24, if_pos, if_neg, if_true, if_false, Option.bind_some, Option.toList_some, Option.toList_none, List.cons_append, List.nil_append, ps12, ps11, g1]
theorem nxc {p b : Nat} : ((p : Int) + 1) = ((p + 1 : Nat) : Int) := by omega
theorem z_takeSign1 {p : Nat} {c : Int} : fX9_takeSign [vR 593, vI c] (PS S (p : Int) 1) = some (none, PS S (p : Int) 1) := by
  obtain ⟨k9, -⟩ := k9_
  rw [uX9_takeSign]
  simp (disch := omega) only [eX9_takeSign_0, eX9_takeSign_1, eX9_takeSign_2, eX9_takeSign_5, eX9_takeSign_8, eX9_takeSign_9, eX9_takeSign_12, eX9_takeSign_13, eX9_takeSign_16, eX9_takeSign_17, eX9_takeSign_20, eX9_takeSign_21, eX9_takeSign_24, eX9_takeSign_25, eX9_takeSign_26, eX9_takeSign_29, eX9_takeSign_30, eX9_takeSign_33, eX9_takeSign_36, eX9_takeSign_37, eX9_takeSign_40, eX9_takeSign_41, eX9_takeSign_42, eX9_takeSign_45, if_pos, if_neg, if_true, if_false, Option.bind_some, Option.toList_some, Option.toList_none, List.cons_append, List.nil_append, ps13, ps12, pu13, pu12, Int.add_zero]
theorem z_takeSignY {p : Nat} {c : Int} (h : RT S P n) (hp : p ≤ 80) (hc : nx P n p = c) : fX9_takeSign [vR 593, vI c] (PS S (p : Int) 0) = some (none, PS S ((p + 1 : Nat) : Int) 0) := by
  obtain ⟨k9, -⟩ := k9_
  have e := z_next (b := 0) h hp
  have hb := rx_b h p
  rw [hc] at e hb
  rw [uX9_takeSign]
  simp (disch := omega) only [eX9_takeSign_0, eX9_takeSign_1, eX9_takeSign_2, eX9_takeSign_5, eX9_takeSign_8, eX9_takeSign_9, eX9_takeSign_12, eX9_takeSign_13, eX9_takeSign_16, eX9_takeSign_17, eX9_takeSign_20, eX9_takeSign_21, eX9_takeSign_24, eX9_takeSign_25, eX9_takeSign_26, eX9_takeSign_29, eX9_takeSign_30, eX9_takeSign_33, eX9_takeSign_36, eX9_takeSign_37, eX9_takeSign_40, eX9_takeSign_41, eX9_takeSign_42, eX9_takeSign_45, if_pos, if_neg, if_true, if_false, Option.bind_some, Option.toList_some, Option.toList_none, List.cons_append, List.nil_append, ps13, ps12, e, pu13, pu12]
  rw [show ((p : Int) + 1) = ((p + 1 : Nat) : Int) by omega]
theorem z_takeSignN {p : Nat} {c : Int} (h : RT S P n) (hp : p ≤ 80) (hr : rng c) (hc : nx P n p ≠ c) : fX9_takeSign [vR 593, vI c] (PS S (p : Int) 0) = some (none, PS S (p : Int) 1) := by
  obtain ⟨k9, -⟩ := k9_
  have e := z_next (b := 0) h hp
  have hb := rx_b h p
  obtain ⟨r1, r2⟩ := hr
  generalize nx P n p = z at *
  rw [uX9_takeSign]
  simp (disch := omega) only [eX9_takeSign_0, eX9_takeSign_1, eX9_takeSign_2, eX9_takeSign_5, eX9_takeSign_8, eX9_takeSign_9, eX9_takeSign_12, eX9_takeSign_13, eX9_takeSign_16, eX9_takeSign_17, eX9_takeSign_20, eX9_takeSign_21, eX9_takeSign_24, eX9_takeSign_25, eX9_takeSign_26, eX9_takeSign_29, eX9_takeSign_30, eX9_takeSign_33, eX9_takeSign_36, eX9_takeSign_37, eX9_takeSign_40, eX9_takeSign_41, eX9_takeSign_42, eX9_takeSign_45, if_pos, if_neg, if_true, if_false, Option.bind_some, Option.toList_some, Option.toList_none, List.cons_append, List.nil_append, ps13, ps12, e, pu13, pu12, Int.add_zero]
theorem z_takesIf1 {p : Nat} {c : Int} : fX9_takesIf [vR 593, vI c] (PS S (p : Int) 1) = some (some (vI 0), PS S (p : Int) 1) := by
  obtain ⟨k9, -⟩ := k9_
  rw [uX9_takesIf]
  simp (disch := omega) only [eX9_takesIf_0, eX9_takesIf_1, eX9_takesIf_4, eX9_takesIf_7, eX9_takesIf_8, eX9_takesIf_11, eX9_takesIf_12, eX9_takesIf_15, eX9_takesIf_16, eX9_takesIf_19, eX9_takesIf_20, eX9_takesIf_21, eX9_takesIf_22, eX9_takesIf_23, eX9_takesIf_26, eX9_takesIf_27, eX9_takesIf_30, eX9_takesIf_31, eX9_takesIf_34, eX9_takesIf_35, eX9_takesIf_36, eX9_takesIf_39, eX9_takesIf_40, if_pos, if_neg, if_true, if_false, Option.bind_some, Option.toList_some, Option.toList_none, List.cons_append, List.nil_append, ps13, ps12, pu12, Int.add_zero]
theorem z_takesIfY {p : Nat} {c : Int} (h : RT S P n) (hp : p ≤ 80) (hc : nx P n p = c) : fX9_takesIf [vR 593, vI c] (PS S (p : Int) 0) = some (some (vI 1), PS S ((p + 1 : Nat) : Int) 0) := by
  obtain ⟨k9, -⟩ := k9_
  have e := z_next (b := 0) h hp
  have hb := rx_b h p
  rw [hc] at e hb
  rw [uX9_takesIf]
  simp (disch := omega) only [eX9_takesIf_0, eX9_takesIf_1, eX9_takesIf_4, eX9_takesIf_7, eX9_takesIf_8, eX9_takesIf_11, eX9_takesIf_12, eX9_takesIf_15, eX9_takesIf_16, eX9_takesIf_19, eX9_takesIf_20, eX9_takesIf_21, eX9_takesIf_22, eX9_takesIf_23, eX9_takesIf_26, eX9_takesIf_27, eX9_takesIf_30, eX9_takesIf_31, eX9_takesIf_34, eX9_takesIf_35, eX9_takesIf_36, eX9_takesIf_39, eX9_takesIf_40, if_pos, if_neg, if_true, if_false, Option.bind_some, Option.toList_some, Option.toList_none, List.cons_append, List.nil_append, ps13, ps12, e, pu12]
  rw [show ((p : Int) + 1) = ((p + 1 : Nat) : Int) by omega]
theorem z_takesIfN {p : Nat} {c : Int} (h : RT S P n) (hp : p ≤ 80) (hr : rng c) (hc : nx P n p ≠ c) : fX9_takesIf [vR 593, vI c] (PS S (p : Int) 0) = some (some (vI 0), PS S (p : Int) 0) := by
  obtain ⟨k9, -⟩ := k9_
  have e := z_next (b := 0) h hp
  have hb := rx_b h p
  obtain ⟨r1, r2⟩ := hr
  generalize nx P n p = z at *
  rw [uX9_takesIf]
  simp (disch := omega) only [eX9_takesIf_0, eX9_takesIf_1, eX9_takesIf_4, eX9_takesIf_7, eX9_takesIf_8, eX9_takesIf_11, eX9_takesIf_12, eX9_takesIf_15, eX9_takesIf_16, eX9_takesIf_19, eX9_takesIf_20, eX9_takesIf_21, eX9_takesIf_22, eX9_takesIf_23, eX9_takesIf_26, eX9_takesIf_27, eX9_takesIf_30, eX9_takesIf_31, eX9_takesIf_34, eX9_takesIf_35, eX9_takesIf_36, eX9_takesIf_39, eX9_takesIf_40, if_pos, if_neg, if_true, if_false, Option.bind_some, Option.toList_some, Option.toList_none, List.cons_append, List.nil_append, ps13, ps12, e, pu12, Int.add_zero]
theorem z_takeDigit1 {p : Nat} {c d : Int} : fX9_takeDigit [vR 593, vI c, vI d] (PS S (p : Int) 1) = some (some (vI 0), PS S (p : Int) 1) := by
  obtain ⟨k9, -⟩ := k9_
  rw [uX9_takeDigit]
  simp (disch := omega) only [eX9_takeDigit_0, eX9_takeDigit_1, eX9_takeDigit_2, eX9_takeDigit_5, eX9_takeDigit_8, eX9_takeDigit_9, eX9_takeDigit_12, eX9_takeDigit_13, eX9_takeDigit_14, eX9_takeDigit_17, eX9_takeDigit_20, eX9_takeDigit_21, eX9_takeDigit_24, eX9_takeDigit_25, eX9_takeDigit_28, eX9_takeDigit_29, eX9_takeDigit_32, eX9_takeDigit_35, eX9_takeDigit_36, eX9_takeDigit_37, eX9_takeDigit_38, eX9_takeDigit_39, eX9_takeDigit_42, eX9_takeDigit_43, eX9_takeDigit_44, eX9_takeDigit_47, eX9_takeDigit_48, eX9_takeDigit_51, eX9_takeDigit_52, eX9_takeDigit_55, eX9_takeDigit_56, eX9_takeDigit_57, eX9_takeDigit_57x, eX9_takeDigit_57y, eX9_takeDigit_58, eX9_takeDigit_60, eX9_takeDigit_61, if_pos, if_neg, if_true, if_false, Option.bind_some, Option.toList_some, Option.toList_none, List.cons_append, List.nil_append, ps13, ps12, pu13]
theorem z_takeDigitY {p : Nat} {c d : Int} (h : RT S P n) (hp : p ≤ 80) (hc : 1 ≤ c) (hd : c ≤ d ∧ d ≤ 126) (hx : c ≤ nx P n p ∧ nx P n p ≤ d) : fX9_takeDigit [vR 593, vI c, vI d] (PS S (p : Int) 0) = some (some (vI (nx P n p - 48)), PS S ((p + 1 : Nat) : Int) 0) := by
  obtain ⟨k9, k6, a6, -⟩ := k9_
  have e := z_next (b := 0) h hp
  have e2 := z_in (S := PS S (p : Int) 0) (a := nx P n p) (b := c) (c := d) ⟨by omega, by omega⟩ ⟨by omega, by omega⟩ ⟨by omega, by omega⟩
  rw [if_pos hx] at e2
  have hpn := nx_in (P := P) (n := n) (p := p) (by omega)
  have hn := h.2.1
  have e3 := (h.2.2 p hpn).1
  have e4 : nx P n p = P p := by unfold nx; rw [if_pos hpn]
  have e5 : (((p : Int) + 1) - 1).toNat = p := by omega
  rw [← e4] at e3
  rw [uX9_takeDigit]
  simp (disch := omega) only [eX9_takeDigit_0, eX9_takeDigit_1, eX9_takeDigit_2, eX9_takeDigit_5, eX9_takeDigit_8, eX9_takeDigit_9, eX9_takeDigit_12, eX9_takeDigit_13, eX9_takeDigit_14, eX9_takeDigit_17, eX9_takeDigit_20, eX9_takeDigit_21, eX9_takeDigit_24, eX9_takeDigit_25, eX9_takeDigit_28, eX9_takeDigit_29, eX9_takeDigit_32, eX9_takeDigit_35, eX9_takeDigit_36, eX9_takeDigit_37, eX9_takeDigit_38, eX9_takeDigit_39, eX9_takeDigit_42, eX9_takeDigit_43, eX9_takeDigit_44, eX9_takeDigit_47, eX9_takeDigit_48, eX9_takeDigit_51, eX9_takeDigit_52, eX9_takeDigit_55, eX9_takeDigit_56, eX9_takeDigit_57, eX9_takeDigit_57x, eX9_takeDigit_57y, eX9_takeDigit_58, eX9_takeDigit_60, eX9_takeDigit_61, if_pos, if_neg, if_true, if_false, Option.bind_some, Option.toList_some, Option.toList_none, List.cons_append, List.nil_append, ps13, ps12, e, e2, pu13, pu12, ps600, e5, e3]
  rw [show ((p : Int) + 1) = ((p + 1 : Nat) : Int) by omega]
theorem z_takeDigitN {p : Nat} {c d : Int} (h : RT S P n) (hp : p ≤ 80) (hc : rng c) (hd : rng d) (hx : ¬ (c ≤ nx P n p ∧ nx P n p ≤ d)) : fX9_takeDigit [vR 593, vI c, vI d] (PS S (p : Int) 0) = some (some (vI 0), PS S (p : Int) 1) := by
  obtain ⟨k9, k6, a6, -⟩ := k9_
  have e := z_next (b := 0) h hp
  have hb := rx_b h p
  have e2 := z_in (S := PS S (p : Int) 0) (a := nx P n p) (b := c) (c := d) ⟨by omega, by omega⟩ hc hd
  rw [if_neg hx] at e2
  rw [uX9_takeDigit]
  simp (disch := omega) only [eX9_takeDigit_0, eX9_takeDigit_1, eX9_takeDigit_2, eX9_takeDigit_5, eX9_takeDigit_8, eX9_takeDigit_9, eX9_takeDigit_12, eX9_takeDigit_13, eX9_takeDigit_14, eX9_takeDigit_17, eX9_takeDigit_20, eX9_takeDigit_21, eX9_takeDigit_24, eX9_takeDigit_25, eX9_takeDigit_28, eX9_takeDigit_29, eX9_takeDigit_32, eX9_takeDigit_35, eX9_takeDigit_36, eX9_takeDigit_37, eX9_takeDigit_38, eX9_takeDigit_39, eX9_takeDigit_42, eX9_takeDigit_43, eX9_takeDigit_44, eX9_takeDigit_47, eX9_takeDigit_48, eX9_takeDigit_51, eX9_takeDigit_52, eX9_takeDigit_55, eX9_takeDigit_56, eX9_takeDigit_57, eX9_takeDigit_57x, eX9_takeDigit_57y, eX9_takeDigit_58, eX9_takeDigit_60, eX9_takeDigit_61, if_pos, if_neg, if_true, if_false, Option.bind_some, Option.toList_some, Option.toList_none, List.cons_append, List.nil_append, ps13, ps12, e, e2, pu13]
/-! keys -/
def kt (f : Nat) : Int := if f = 0 then 100 else if f = 1 then 10 else 1
def kbad (P : Nat → Int) (n : Nat) (q : Int × Nat) : Int := if q.1 ≠ 0 ∧ 48 ≤ nx P n q.2 ∧ nx P n q.2 ≤ 57 then 1 else 0
theorem l_key (h : RT S P n) : ∀ (f p : Nat) (v x : Int), f ≤ 2 → p ≤ n → (v = 0 ∨ (kt f ≤ v ∧ v ≤ 299)) → rn xX9_takeKey (9, [some (vR 593), some (vI v), some (vI x)], [], PS S (p : Int) 0) = some (some (vI (kyL P n f v p).1), PS S ((kyL P n f v p).2 : Int) (kbad P n (kyL P n f v p))) ∧ rn xX9_takeKey (9, [some (vR 593), some (vI v), none], [], PS S (p : Int) 0) = some (some (vI (kyL P n f v p).1), PS S ((kyL P n f v p).2 : Int) (kbad P n (kyL P n f v p))) := by
  obtain ⟨k9, -⟩ := k9_
  have hn := h.2.1
  intro f
  induction f with
  | zero =>
    intro p v x hf hp hv
    have e := z_next (b := 0) h (show p ≤ 80 by omega)
    have hb := rx_b h p
    rw [kyL]
    unfold kbad
    rcases hv with hv | hv
    · rw [if_neg (fun y => y.1 hv)]
      constructor
      · rw [eX9_takeKey_9]
        simp (disch := omega) only [eX9_takeKey_0, eX9_takeKey_1, eX9_takeKey_3, eX9_takeKey_5, eX9_takeKey_8, eX9_takeKey_10, eX9_takeKey_13, eX9_takeKey_16, eX9_takeKey_17, eX9_takeKey_20, eX9_takeKey_21, eX9_takeKey_24, eX9_takeKey_26, eX9_takeKey_28, eX9_takeKey_31, eX9_takeKey_34, eX9_takeKey_36, eX9_takeKey_37, eX9_takeKey_38, eX9_takeKey_39, eX9_takeKey_42, eX9_takeKey_43, eX9_takeKey_45, eX9_takeKey_46, eX9_takeKey_47, eX9_takeKey_48, eX9_takeKey_49, eX9_takeKey_52, eX9_takeKey_55, eX9_takeKey_56, eX9_takeKey_59, eX9_takeKey_60, eX9_takeKey_63, eX9_takeKey_64, eX9_takeKey_67, eX9_takeKey_70, eX9_takeKey_71, eX9_takeKey_74, eX9_takeKey_75, eX9_takeKey_76, eX9_takeKey_77, eX9_takeKey_78, eX9_takeKey_81, eX9_takeKey_82, eX9_takeKey_85, eX9_takeKey_88, eX9_takeKey_89, eX9_takeKey_92, eX9_takeKey_93, eX9_takeKey_94, eX9_takeKey_97, eX9_takeKey_100, eX9_takeKey_101, if_pos, if_neg, if_true, if_false, Option.bind_some, Option.toList_some, Option.toList_none, List.cons_append, List.nil_append, ps13]
      · rw [eX9_takeKey_9]
        simp (disch := omega) only [eX9_takeKey_0, eX9_takeKey_1, eX9_takeKey_3, eX9_takeKey_5, eX9_takeKey_8, eX9_takeKey_10, eX9_takeKey_13, eX9_takeKey_16, eX9_takeKey_17, eX9_takeKey_20, eX9_takeKey_21, eX9_takeKey_24, eX9_takeKey_26, eX9_takeKey_28, eX9_takeKey_31, eX9_takeKey_34, eX9_takeKey_36, eX9_takeKey_37, eX9_takeKey_38, eX9_takeKey_39, eX9_takeKey_42, eX9_takeKey_43, eX9_takeKey_45, eX9_takeKey_46, eX9_takeKey_47, eX9_takeKey_48, eX9_takeKey_49, eX9_takeKey_52, eX9_takeKey_55, eX9_takeKey_56, eX9_takeKey_59, eX9_takeKey_60, eX9_takeKey_63, eX9_takeKey_64, eX9_takeKey_67, eX9_takeKey_70, eX9_takeKey_71, eX9_takeKey_74, eX9_takeKey_75, eX9_takeKey_76, eX9_takeKey_77, eX9_takeKey_78, eX9_takeKey_81, eX9_takeKey_82, eX9_takeKey_85, eX9_takeKey_88, eX9_takeKey_89, eX9_takeKey_92, eX9_takeKey_93, eX9_takeKey_94, eX9_takeKey_97, eX9_takeKey_100, eX9_takeKey_101, if_pos, if_neg, if_true, if_false, Option.bind_some, Option.toList_some, Option.toList_none, List.cons_append, List.nil_append, ps13]
    · have hv : 100 ≤ v ∧ v ≤ 299 := hv
      have e2 := z_in (S := PS S (p : Int) 0) (a := nx P n p) (b := 48) (c := 57) ⟨by omega, by omega⟩ ⟨by omega, by omega⟩ ⟨by omega, by omega⟩
      by_cases d : 48 ≤ nx P n p ∧ nx P n p ≤ 57
      · rw [if_pos ⟨by omega, d⟩]
        rw [if_pos d] at e2
        generalize nx P n p = z at *
        constructor
        · rw [eX9_takeKey_9]
          simp (disch := omega) only [eX9_takeKey_0, eX9_takeKey_1, eX9_takeKey_3, eX9_takeKey_5, eX9_takeKey_8, eX9_takeKey_10, eX9_takeKey_13, eX9_takeKey_16, eX9_takeKey_17, eX9_takeKey_20, eX9_takeKey_21, eX9_takeKey_24, eX9_takeKey_26, eX9_takeKey_28, eX9_takeKey_31, eX9_takeKey_34, eX9_takeKey_36, eX9_takeKey_37, eX9_takeKey_38, eX9_takeKey_39, eX9_takeKey_42, eX9_takeKey_43, eX9_takeKey_45, eX9_takeKey_46, eX9_takeKey_47, eX9_takeKey_48, eX9_takeKey_49, eX9_takeKey_52, eX9_takeKey_55, eX9_takeKey_56, eX9_takeKey_59, eX9_takeKey_60, eX9_takeKey_63, eX9_takeKey_64, eX9_takeKey_67, eX9_takeKey_70, eX9_takeKey_71, eX9_takeKey_74, eX9_takeKey_75, eX9_takeKey_76, eX9_takeKey_77, eX9_takeKey_78, eX9_takeKey_81, eX9_takeKey_82, eX9_takeKey_85, eX9_takeKey_88, eX9_takeKey_89, eX9_takeKey_92, eX9_takeKey_93, eX9_takeKey_94, eX9_takeKey_97, eX9_takeKey_100, eX9_takeKey_101, if_pos, if_neg, if_true, if_false, Option.bind_some, Option.toList_some, Option.toList_none, List.cons_append, List.nil_append, ps13, e, e2, pu13, ps12, pu12, Int.add_zero]
          rw [eX9_takeKey_9]
          simp (disch := omega) only [eX9_takeKey_0, eX9_takeKey_1, eX9_takeKey_3, eX9_takeKey_5, eX9_takeKey_8, eX9_takeKey_10, eX9_takeKey_13, eX9_takeKey_16, eX9_takeKey_17, eX9_takeKey_20, eX9_takeKey_21, eX9_takeKey_24, eX9_takeKey_26, eX9_takeKey_28, eX9_takeKey_31, eX9_takeKey_34, eX9_takeKey_36, eX9_takeKey_37, eX9_takeKey_38, eX9_takeKey_39, eX9_takeKey_42, eX9_takeKey_43, eX9_takeKey_45, eX9_takeKey_46, eX9_takeKey_47, eX9_takeKey_48, eX9_takeKey_49, eX9_takeKey_52, eX9_takeKey_55, eX9_takeKey_56, eX9_takeKey_59, eX9_takeKey_60, eX9_takeKey_63, eX9_takeKey_64, eX9_takeKey_67, eX9_takeKey_70, eX9_takeKey_71, eX9_takeKey_74, eX9_takeKey_75, eX9_takeKey_76, eX9_takeKey_77, eX9_takeKey_78, eX9_takeKey_81, eX9_takeKey_82, eX9_takeKey_85, eX9_takeKey_88, eX9_takeKey_89, eX9_takeKey_92, eX9_takeKey_93, eX9_takeKey_94, eX9_takeKey_97, eX9_takeKey_100, eX9_takeKey_101, if_pos, if_neg, if_true, if_false, Option.bind_some, Option.toList_some, Option.toList_none, List.cons_append, List.nil_append, ps13]
        · rw [eX9_takeKey_9]
          simp (disch := omega) only [eX9_takeKey_0, eX9_takeKey_1, eX9_takeKey_3, eX9_takeKey_5, eX9_takeKey_8, eX9_takeKey_10, eX9_takeKey_13, eX9_takeKey_16, eX9_takeKey_17, eX9_takeKey_20, eX9_takeKey_21, eX9_takeKey_24, eX9_takeKey_26, eX9_takeKey_28, eX9_takeKey_31, eX9_takeKey_34, eX9_takeKey_36, eX9_takeKey_37, eX9_takeKey_38, eX9_takeKey_39, eX9_takeKey_42, eX9_takeKey_43, eX9_takeKey_45, eX9_takeKey_46, eX9_takeKey_47, eX9_takeKey_48, eX9_takeKey_49, eX9_takeKey_52, eX9_takeKey_55, eX9_takeKey_56, eX9_takeKey_59, eX9_takeKey_60, eX9_takeKey_63, eX9_takeKey_64, eX9_takeKey_67, eX9_takeKey_70, eX9_takeKey_71, eX9_takeKey_74, eX9_takeKey_75, eX9_takeKey_76, eX9_takeKey_77, eX9_takeKey_78, eX9_takeKey_81, eX9_takeKey_82, eX9_takeKey_85, eX9_takeKey_88, eX9_takeKey_89, eX9_takeKey_92, eX9_takeKey_93, eX9_takeKey_94, eX9_takeKey_97, eX9_takeKey_100, eX9_takeKey_101, if_pos, if_neg, if_true, if_false, Option.bind_some, Option.toList_some, Option.toList_none, List.cons_append, List.nil_append, ps13, e, e2, pu13, ps12, pu12, Int.add_zero]
          rw [eX9_takeKey_9]
          simp (disch := omega) only [eX9_takeKey_0, eX9_takeKey_1, eX9_takeKey_3, eX9_takeKey_5, eX9_takeKey_8, eX9_takeKey_10, eX9_takeKey_13, eX9_takeKey_16, eX9_takeKey_17, eX9_takeKey_20, eX9_takeKey_21, eX9_takeKey_24, eX9_takeKey_26, eX9_takeKey_28, eX9_takeKey_31, eX9_takeKey_34, eX9_takeKey_36, eX9_takeKey_37, eX9_takeKey_38, eX9_takeKey_39, eX9_takeKey_42, eX9_takeKey_43, eX9_takeKey_45, eX9_takeKey_46, eX9_takeKey_47, eX9_takeKey_48, eX9_takeKey_49, eX9_takeKey_52, eX9_takeKey_55, eX9_takeKey_56, eX9_takeKey_59, eX9_takeKey_60, eX9_takeKey_63, eX9_takeKey_64, eX9_takeKey_67, eX9_takeKey_70, eX9_takeKey_71, eX9_takeKey_74, eX9_takeKey_75, eX9_takeKey_76, eX9_takeKey_77, eX9_takeKey_78, eX9_takeKey_81, eX9_takeKey_82, eX9_takeKey_85, eX9_takeKey_88, eX9_takeKey_89, eX9_takeKey_92, eX9_takeKey_93, eX9_takeKey_94, eX9_takeKey_97, eX9_takeKey_100, eX9_takeKey_101, if_pos, if_neg, if_true, if_false, Option.bind_some, Option.toList_some, Option.toList_none, List.cons_append, List.nil_append, ps13]
      · rw [if_neg (fun y => d y.2)]
        rw [if_neg d] at e2
        constructor
        · rw [eX9_takeKey_9]
          simp (disch := omega) only [eX9_takeKey_0, eX9_takeKey_1, eX9_takeKey_3, eX9_takeKey_5, eX9_takeKey_8, eX9_takeKey_10, eX9_takeKey_13, eX9_takeKey_16, eX9_takeKey_17, eX9_takeKey_20, eX9_takeKey_21, eX9_takeKey_24, eX9_takeKey_26, eX9_takeKey_28, eX9_takeKey_31, eX9_takeKey_34, eX9_takeKey_36, eX9_takeKey_37, eX9_takeKey_38, eX9_takeKey_39, eX9_takeKey_42, eX9_takeKey_43, eX9_takeKey_45, eX9_takeKey_46, eX9_takeKey_47, eX9_takeKey_48, eX9_takeKey_49, eX9_takeKey_52, eX9_takeKey_55, eX9_takeKey_56, eX9_takeKey_59, eX9_takeKey_60, eX9_takeKey_63, eX9_takeKey_64, eX9_takeKey_67, eX9_takeKey_70, eX9_takeKey_71, eX9_takeKey_74, eX9_takeKey_75, eX9_takeKey_76, eX9_takeKey_77, eX9_takeKey_78, eX9_takeKey_81, eX9_takeKey_82, eX9_takeKey_85, eX9_takeKey_88, eX9_takeKey_89, eX9_takeKey_92, eX9_takeKey_93, eX9_takeKey_94, eX9_takeKey_97, eX9_takeKey_100, eX9_takeKey_101, if_pos, if_neg, if_true, if_false, Option.bind_some, Option.toList_some, Option.toList_none, List.cons_append, List.nil_append, ps13, e, e2]
        · rw [eX9_takeKey_9]
          simp (disch := omega) only [eX9_takeKey_0, eX9_takeKey_1, eX9_takeKey_3, eX9_takeKey_5, eX9_takeKey_8, eX9_takeKey_10, eX9_takeKey_13, eX9_takeKey_16, eX9_takeKey_17, eX9_takeKey_20, eX9_takeKey_21, eX9_takeKey_24, eX9_takeKey_26, eX9_takeKey_28, eX9_takeKey_31, eX9_takeKey_34, eX9_takeKey_36, eX9_takeKey_37, eX9_takeKey_38, eX9_takeKey_39, eX9_takeKey_42, eX9_takeKey_43, eX9_takeKey_45, eX9_takeKey_46, eX9_takeKey_47, eX9_takeKey_48, eX9_takeKey_49, eX9_takeKey_52, eX9_takeKey_55, eX9_takeKey_56, eX9_takeKey_59, eX9_takeKey_60, eX9_takeKey_63, eX9_takeKey_64, eX9_takeKey_67, eX9_takeKey_70, eX9_takeKey_71, eX9_takeKey_74, eX9_takeKey_75, eX9_takeKey_76, eX9_takeKey_77, eX9_takeKey_78, eX9_takeKey_81, eX9_takeKey_82, eX9_takeKey_85, eX9_takeKey_88, eX9_takeKey_89, eX9_takeKey_92, eX9_takeKey_93, eX9_takeKey_94, eX9_takeKey_97, eX9_takeKey_100, eX9_takeKey_101, if_pos, if_neg, if_true, if_false, Option.bind_some, Option.toList_some, Option.toList_none, List.cons_append, List.nil_append, ps13, e, e2]
  | succ f ih =>
    intro p v x hf hp hv
    have e := z_next (b := 0) h (show p ≤ 80 by omega)
    have hb := rx_b h p
    rw [kyL]
    have hk1 : 1 ≤ kt (f + 1) := by unfold kt; split <;> (try split) <;> omega
    rcases hv with hv | hv
    · rw [if_neg (fun y => y.1 hv)]
      unfold kbad
      rw [if_neg (fun y => y.1 hv)]
      constructor
      · rw [eX9_takeKey_9]
        simp (disch := omega) only [eX9_takeKey_0, eX9_takeKey_1, eX9_takeKey_3, eX9_takeKey_5, eX9_takeKey_8, eX9_takeKey_10, eX9_takeKey_13, eX9_takeKey_16, eX9_takeKey_17, eX9_takeKey_20, eX9_takeKey_21, eX9_takeKey_24, eX9_takeKey_26, eX9_takeKey_28, eX9_takeKey_31, eX9_takeKey_34, eX9_takeKey_36, eX9_takeKey_37, eX9_takeKey_38, eX9_takeKey_39, eX9_takeKey_42, eX9_takeKey_43, eX9_takeKey_45, eX9_takeKey_46, eX9_takeKey_47, eX9_takeKey_48, eX9_takeKey_49, eX9_takeKey_52, eX9_takeKey_55, eX9_takeKey_56, eX9_takeKey_59, eX9_takeKey_60, eX9_takeKey_63, eX9_takeKey_64, eX9_takeKey_67, eX9_takeKey_70, eX9_takeKey_71, eX9_takeKey_74, eX9_takeKey_75, eX9_takeKey_76, eX9_takeKey_77, eX9_takeKey_78, eX9_takeKey_81, eX9_takeKey_82, eX9_takeKey_85, eX9_takeKey_88, eX9_takeKey_89, eX9_takeKey_92, eX9_takeKey_93, eX9_takeKey_94, eX9_takeKey_97, eX9_takeKey_100, eX9_takeKey_101, if_pos, if_neg, if_true, if_false, Option.bind_some, Option.toList_some, Option.toList_none, List.cons_append, List.nil_append, ps13]
      · rw [eX9_takeKey_9]
        simp (disch := omega) only [eX9_takeKey_0, eX9_takeKey_1, eX9_takeKey_3, eX9_takeKey_5, eX9_takeKey_8, eX9_takeKey_10, eX9_takeKey_13, eX9_takeKey_16, eX9_takeKey_17, eX9_takeKey_20, eX9_takeKey_21, eX9_takeKey_24, eX9_takeKey_26, eX9_takeKey_28, eX9_takeKey_31, eX9_takeKey_34, eX9_takeKey_36, eX9_takeKey_37, eX9_takeKey_38, eX9_takeKey_39, eX9_takeKey_42, eX9_takeKey_43, eX9_takeKey_45, eX9_takeKey_46, eX9_takeKey_47, eX9_takeKey_48, eX9_takeKey_49, eX9_takeKey_52, eX9_takeKey_55, eX9_takeKey_56, eX9_takeKey_59, eX9_takeKey_60, eX9_takeKey_63, eX9_takeKey_64, eX9_takeKey_67, eX9_takeKey_70, eX9_takeKey_71, eX9_takeKey_74, eX9_takeKey_75, eX9_takeKey_76, eX9_takeKey_77, eX9_takeKey_78, eX9_takeKey_81, eX9_takeKey_82, eX9_takeKey_85, eX9_takeKey_88, eX9_takeKey_89, eX9_takeKey_92, eX9_takeKey_93, eX9_takeKey_94, eX9_takeKey_97, eX9_takeKey_100, eX9_takeKey_101, if_pos, if_neg, if_true, if_false, Option.bind_some, Option.toList_some, Option.toList_none, List.cons_append, List.nil_append, ps13]
    · have e2 := z_in (S := PS S (p : Int) 0) (a := nx P n p) (b := 48) (c := 57) ⟨by omega, by omega⟩ ⟨by omega, by omega⟩ ⟨by omega, by omega⟩
      by_cases d : 48 ≤ nx P n p ∧ nx P n p ≤ 57
      · rw [if_pos d] at e2
        have hpn := nx_in (P := P) (n := n) (p := p) (by omega)
        by_cases l : 10 * v + (nx P n p - 48) ≤ 299
        · rw [if_pos ⟨by omega, d, l⟩]
          obtain ⟨ih1, ih2⟩ := ih (p + 1) (10 * v + (nx P n p - 48)) (10 * v + nx P n p - 48) (by omega) (by omega) (Or.inr ⟨by
            have hv1 := hv.1
            unfold kt at hv1 ⊢
            rcases (show f = 0 ∨ f = 1 by omega) with q | q
            · subst q
              rw [if_neg (by omega), if_pos rfl] at hv1
              rw [if_pos rfl]
              omega
            · subst q
              rw [if_neg (by omega), if_neg (by omega)] at hv1
              rw [if_neg (by omega), if_pos rfl]
              omega, l⟩)
          rw [show 10 * v + (nx P n p - 48) = 10 * v + nx P n p - 48 by omega] at ih1 l ⊢
          generalize nx P n p = z at *
          constructor
          · rw [← ih1, eX9_takeKey_9]
            simp (disch := omega) only [eX9_takeKey_0, eX9_takeKey_1, eX9_takeKey_3, eX9_takeKey_5, eX9_takeKey_8, eX9_takeKey_10, eX9_takeKey_13, eX9_takeKey_16, eX9_takeKey_17, eX9_takeKey_20, eX9_takeKey_21, eX9_takeKey_24, eX9_takeKey_26, eX9_takeKey_28, eX9_takeKey_31, eX9_takeKey_34, eX9_takeKey_36, eX9_takeKey_37, eX9_takeKey_38, eX9_takeKey_39, eX9_takeKey_42, eX9_takeKey_43, eX9_takeKey_45, eX9_takeKey_46, eX9_takeKey_47, eX9_takeKey_48, eX9_takeKey_49, eX9_takeKey_52, eX9_takeKey_55, eX9_takeKey_56, eX9_takeKey_59, eX9_takeKey_60, eX9_takeKey_63, eX9_takeKey_64, eX9_takeKey_67, eX9_takeKey_70, eX9_takeKey_71, eX9_takeKey_74, eX9_takeKey_75, eX9_takeKey_76, eX9_takeKey_77, eX9_takeKey_78, eX9_takeKey_81, eX9_takeKey_82, eX9_takeKey_85, eX9_takeKey_88, eX9_takeKey_89, eX9_takeKey_92, eX9_takeKey_93, eX9_takeKey_94, eX9_takeKey_97, eX9_takeKey_100, eX9_takeKey_101, if_pos, if_neg, if_true, if_false, Option.bind_some, Option.toList_some, Option.toList_none, List.cons_append, List.nil_append, ps13, e, e2, pu13, ps12, pu12]
            rw [show ((p : Int) + 1) = ((p + 1 : Nat) : Int) by omega]
          · rw [← ih1, eX9_takeKey_9]
            simp (disch := omega) only [eX9_takeKey_0, eX9_takeKey_1, eX9_takeKey_3, eX9_takeKey_5, eX9_takeKey_8, eX9_takeKey_10, eX9_takeKey_13, eX9_takeKey_16, eX9_takeKey_17, eX9_takeKey_20, eX9_takeKey_21, eX9_takeKey_24, eX9_takeKey_26, eX9_takeKey_28, eX9_takeKey_31, eX9_takeKey_34, eX9_takeKey_36, eX9_takeKey_37, eX9_takeKey_38, eX9_takeKey_39, eX9_takeKey_42, eX9_takeKey_43, eX9_takeKey_45, eX9_takeKey_46, eX9_takeKey_47, eX9_takeKey_48, eX9_takeKey_49, eX9_takeKey_52, eX9_takeKey_55, eX9_takeKey_56, eX9_takeKey_59, eX9_takeKey_60, eX9_takeKey_63, eX9_takeKey_64, eX9_takeKey_67, eX9_takeKey_70, eX9_takeKey_71, eX9_takeKey_74, eX9_takeKey_75, eX9_takeKey_76, eX9_takeKey_77, eX9_takeKey_78, eX9_takeKey_81, eX9_takeKey_82, eX9_takeKey_85, eX9_takeKey_88, eX9_takeKey_89, eX9_takeKey_92, eX9_takeKey_93, eX9_takeKey_94, eX9_takeKey_97, eX9_takeKey_100, eX9_takeKey_101, if_pos, if_neg, if_true, if_false, Option.bind_some, Option.toList_some, Option.toList_none, List.cons_append, List.nil_append, ps13, e, e2, pu13, ps12, pu12]
            rw [show ((p : Int) + 1) = ((p + 1 : Nat) : Int) by omega]
        · rw [if_neg (fun y => l y.2.2)]
          unfold kbad
          rw [if_pos ⟨by omega, d⟩]
          generalize nx P n p = z at *
          constructor
          · rw [eX9_takeKey_9]
            simp (disch := omega) only [eX9_takeKey_0, eX9_takeKey_1, eX9_takeKey_3, eX9_takeKey_5, eX9_takeKey_8, eX9_takeKey_10, eX9_takeKey_13, eX9_takeKey_16, eX9_takeKey_17, eX9_takeKey_20, eX9_takeKey_21, eX9_takeKey_24, eX9_takeKey_26, eX9_takeKey_28, eX9_takeKey_31, eX9_takeKey_34, eX9_takeKey_36, eX9_takeKey_37, eX9_takeKey_38, eX9_takeKey_39, eX9_takeKey_42, eX9_takeKey_43, eX9_takeKey_45, eX9_takeKey_46, eX9_takeKey_47, eX9_takeKey_48, eX9_takeKey_49, eX9_takeKey_52, eX9_takeKey_55, eX9_takeKey_56, eX9_takeKey_59, eX9_takeKey_60, eX9_takeKey_63, eX9_takeKey_64, eX9_takeKey_67, eX9_takeKey_70, eX9_takeKey_71, eX9_takeKey_74, eX9_takeKey_75, eX9_takeKey_76, eX9_takeKey_77, eX9_takeKey_78, eX9_takeKey_81, eX9_takeKey_82, eX9_takeKey_85, eX9_takeKey_88, eX9_takeKey_89, eX9_takeKey_92, eX9_takeKey_93, eX9_takeKey_94, eX9_takeKey_97, eX9_takeKey_100, eX9_takeKey_101, if_pos, if_neg, if_true, if_false, Option.bind_some, Option.toList_some, Option.toList_none, List.cons_append, List.nil_append, ps13, e, e2, pu13, ps12, pu12, Int.add_zero]
            rw [eX9_takeKey_9]
            simp (disch := omega) only [eX9_takeKey_0, eX9_takeKey_1, eX9_takeKey_3, eX9_takeKey_5, eX9_takeKey_8, eX9_takeKey_10, eX9_takeKey_13, eX9_takeKey_16, eX9_takeKey_17, eX9_takeKey_20, eX9_takeKey_21, eX9_takeKey_24, eX9_takeKey_26, eX9_takeKey_28, eX9_takeKey_31, eX9_takeKey_34, eX9_takeKey_36, eX9_takeKey_37, eX9_takeKey_38, eX9_takeKey_39, eX9_takeKey_42, eX9_takeKey_43, eX9_takeKey_45, eX9_takeKey_46, eX9_takeKey_47, eX9_takeKey_48, eX9_takeKey_49, eX9_takeKey_52, eX9_takeKey_55, eX9_takeKey_56, eX9_takeKey_59, eX9_takeKey_60, eX9_takeKey_63, eX9_takeKey_64, eX9_takeKey_67, eX9_takeKey_70, eX9_takeKey_71, eX9_takeKey_74, eX9_takeKey_75, eX9_takeKey_76, eX9_takeKey_77, eX9_takeKey_78, eX9_takeKey_81, eX9_takeKey_82, eX9_takeKey_85, eX9_takeKey_88, eX9_takeKey_89, eX9_takeKey_92, eX9_takeKey_93, eX9_takeKey_94, eX9_takeKey_97, eX9_takeKey_100, eX9_takeKey_101, if_pos, if_neg, if_true, if_false, Option.bind_some, Option.toList_some, Option.toList_none, List.cons_append, List.nil_append, ps13]
          · rw [eX9_takeKey_9]
            simp (disch := omega) only [eX9_takeKey_0, eX9_takeKey_1, eX9_takeKey_3, eX9_takeKey_5, eX9_takeKey_8, eX9_takeKey_10, eX9_takeKey_13, eX9_takeKey_16, eX9_takeKey_17, eX9_takeKey_20, eX9_takeKey_21, eX9_takeKey_24, eX9_takeKey_26, eX9_takeKey_28, eX9_takeKey_31, eX9_takeKey_34, eX9_takeKey_36, eX9_takeKey_37, eX9_takeKey_38, eX9_takeKey_39, eX9_takeKey_42, eX9_takeKey_43, eX9_takeKey_45, eX9_takeKey_46, eX9_takeKey_47, eX9_takeKey_48, eX9_takeKey_49, eX9_takeKey_52, eX9_takeKey_55, eX9_takeKey_56, eX9_takeKey_59, eX9_takeKey_60, eX9_takeKey_63, eX9_takeKey_64, eX9_takeKey_67, eX9_takeKey_70, eX9_takeKey_71, eX9_takeKey_74, eX9_takeKey_75, eX9_takeKey_76, eX9_takeKey_77, eX9_takeKey_78, eX9_takeKey_81, eX9_takeKey_82, eX9_takeKey_85, eX9_takeKey_88, eX9_takeKey_89, eX9_takeKey_92, eX9_takeKey_93, eX9_takeKey_94, eX9_takeKey_97, eX9_takeKey_100, eX9_takeKey_101, if_pos, if_neg, if_true, if_false, Option.bind_some, Option.toList_some, Option.toList_none, List.cons_append, List.nil_append, ps13, e, e2, pu13, ps12, pu12, Int.add_zero]
            rw [eX9_takeKey_9]
            simp (disch := omega) only [eX9_takeKey_0, eX9_takeKey_1, eX9_takeKey_3, eX9_takeKey_5, eX9_takeKey_8, eX9_takeKey_10, eX9_takeKey_13, eX9_takeKey_16, eX9_takeKey_17, eX9_takeKey_20, eX9_takeKey_21, eX9_takeKey_24, eX9_takeKey_26, eX9_takeKey_28, eX9_takeKey_31, eX9_takeKey_34, eX9_takeKey_36, eX9_takeKey_37, eX9_takeKey_38, eX9_takeKey_39, eX9_takeKey_42, eX9_takeKey_43, eX9_takeKey_45, eX9_takeKey_46, eX9_takeKey_47, eX9_takeKey_48, eX9_takeKey_49, eX9_takeKey_52, eX9_takeKey_55, eX9_takeKey_56, eX9_takeKey_59, eX9_takeKey_60, eX9_takeKey_63, eX9_takeKey_64, eX9_takeKey_67, eX9_takeKey_70, eX9_takeKey_71, eX9_takeKey_74, eX9_takeKey_75, eX9_takeKey_76, eX9_takeKey_77, eX9_takeKey_78, eX9_takeKey_81, eX9_takeKey_82, eX9_takeKey_85, eX9_takeKey_88, eX9_takeKey_89, eX9_takeKey_92, eX9_takeKey_93, eX9_takeKey_94, eX9_takeKey_97, eX9_takeKey_100, eX9_takeKey_101, if_pos, if_neg, if_true, if_false, Option.bind_some, Option.toList_some, Option.toList_none, List.cons_append, List.nil_append, ps13]
      · rw [if_neg d] at e2
        rw [if_neg (fun y => d y.2.1)]
        unfold kbad
        rw [if_neg (fun y => d y.2)]
        constructor
        · rw [eX9_takeKey_9]
          simp (disch := omega) only [eX9_takeKey_0, eX9_takeKey_1, eX9_takeKey_3, eX9_takeKey_5, eX9_takeKey_8, eX9_takeKey_10, eX9_takeKey_13, eX9_takeKey_16, eX9_takeKey_17, eX9_takeKey_20, eX9_takeKey_21, eX9_takeKey_24, eX9_takeKey_26, eX9_takeKey_28, eX9_takeKey_31, eX9_takeKey_34, eX9_takeKey_36, eX9_takeKey_37, eX9_takeKey_38, eX9_takeKey_39, eX9_takeKey_42, eX9_takeKey_43, eX9_takeKey_45, eX9_takeKey_46, eX9_takeKey_47, eX9_takeKey_48, eX9_takeKey_49, eX9_takeKey_52, eX9_takeKey_55, eX9_takeKey_56, eX9_takeKey_59, eX9_takeKey_60, eX9_takeKey_63, eX9_takeKey_64, eX9_takeKey_67, eX9_takeKey_70, eX9_takeKey_71, eX9_takeKey_74, eX9_takeKey_75, eX9_takeKey_76, eX9_takeKey_77, eX9_takeKey_78, eX9_takeKey_81, eX9_takeKey_82, eX9_takeKey_85, eX9_takeKey_88, eX9_takeKey_89, eX9_takeKey_92, eX9_takeKey_93, eX9_takeKey_94, eX9_takeKey_97, eX9_takeKey_100, eX9_takeKey_101, if_pos, if_neg, if_true, if_false, Option.bind_some, Option.toList_some, Option.toList_none, List.cons_append, List.nil_append, ps13, e, e2]
        · rw [eX9_takeKey_9]
          simp (disch := omega) only [eX9_takeKey_0, eX9_takeKey_1, eX9_takeKey_3, eX9_takeKey_5, eX9_takeKey_8, eX9_takeKey_10, eX9_takeKey_13, eX9_takeKey_16, eX9_takeKey_17, eX9_takeKey_20, eX9_takeKey_21, eX9_takeKey_24, eX9_takeKey_26, eX9_takeKey_28, eX9_takeKey_31, eX9_takeKey_34, eX9_takeKey_36, eX9_takeKey_37, eX9_takeKey_38, eX9_takeKey_39, eX9_takeKey_42, eX9_takeKey_43, eX9_takeKey_45, eX9_takeKey_46, eX9_takeKey_47, eX9_takeKey_48, eX9_takeKey_49, eX9_takeKey_52, eX9_takeKey_55, eX9_takeKey_56, eX9_takeKey_59, eX9_takeKey_60, eX9_takeKey_63, eX9_takeKey_64, eX9_takeKey_67, eX9_takeKey_70, eX9_takeKey_71, eX9_takeKey_74, eX9_takeKey_75, eX9_takeKey_76, eX9_takeKey_77, eX9_takeKey_78, eX9_takeKey_81, eX9_takeKey_82, eX9_takeKey_85, eX9_takeKey_88, eX9_takeKey_89, eX9_takeKey_92, eX9_takeKey_93, eX9_takeKey_94, eX9_takeKey_97, eX9_takeKey_100, eX9_takeKey_101, if_pos, if_neg, if_true, if_false, Option.bind_some, Option.toList_some, Option.toList_none, List.cons_append, List.nil_append, ps13, e, e2]
theorem z_takeKey1 {p : Nat} : fX9_takeKey [vR 593] (PS S (p : Int) 1) = some (some (vI 0), PS S (p : Int) 1) := by
  obtain ⟨k9, -⟩ := k9_
  have e := z_takeDigit1 (S := S) (p := p) (c := 48) (d := 57)
  rw [uX9_takeKey]
  simp (disch := omega) only [eX9_takeKey_0, eX9_takeKey_1, eX9_takeKey_3, eX9_takeKey_5, eX9_takeKey_8, eX9_takeKey_10, eX9_takeKey_13, eX9_takeKey_16, eX9_takeKey_17, eX9_takeKey_20, eX9_takeKey_21, eX9_takeKey_24, eX9_takeKey_26, eX9_takeKey_28, eX9_takeKey_31, eX9_takeKey_34, eX9_takeKey_36, eX9_takeKey_37, eX9_takeKey_38, eX9_takeKey_39, eX9_takeKey_42, eX9_takeKey_43, eX9_takeKey_45, eX9_takeKey_46, eX9_takeKey_47, eX9_takeKey_48, eX9_takeKey_49, eX9_takeKey_52, eX9_takeKey_55, eX9_takeKey_56, eX9_takeKey_59, eX9_takeKey_60, eX9_takeKey_63, eX9_takeKey_64, eX9_takeKey_67, eX9_takeKey_70, eX9_takeKey_71, eX9_takeKey_74, eX9_takeKey_75, eX9_takeKey_76, eX9_takeKey_77, eX9_takeKey_78, eX9_takeKey_81, eX9_takeKey_82, eX9_takeKey_85, eX9_takeKey_88, eX9_takeKey_89, eX9_takeKey_92, eX9_takeKey_93, eX9_takeKey_94, eX9_takeKey_97, eX9_takeKey_100, eX9_takeKey_101, if_pos, if_neg, if_true, if_false, Option.bind_some, Option.toList_some, Option.toList_none, List.cons_append, List.nil_append, e]
  rw [eX9_takeKey_9]
  simp (disch := omega) only [eX9_takeKey_0, eX9_takeKey_1, eX9_takeKey_3, eX9_takeKey_5, eX9_takeKey_8, eX9_takeKey_10, eX9_takeKey_13, eX9_takeKey_16, eX9_takeKey_17, eX9_takeKey_20, eX9_takeKey_21, eX9_takeKey_24, eX9_takeKey_26, eX9_takeKey_28, eX9_takeKey_31, eX9_takeKey_34, eX9_takeKey_36, eX9_takeKey_37, eX9_takeKey_38, eX9_takeKey_39, eX9_takeKey_42, eX9_takeKey_43, eX9_takeKey_45, eX9_takeKey_46, eX9_takeKey_47, eX9_takeKey_48, eX9_takeKey_49, eX9_takeKey_52, eX9_takeKey_55, eX9_takeKey_56, eX9_takeKey_59, eX9_takeKey_60, eX9_takeKey_63, eX9_takeKey_64, eX9_takeKey_67, eX9_takeKey_70, eX9_takeKey_71, eX9_takeKey_74, eX9_takeKey_75, eX9_takeKey_76, eX9_takeKey_77, eX9_takeKey_78, eX9_takeKey_81, eX9_takeKey_82, eX9_takeKey_85, eX9_takeKey_88, eX9_takeKey_89, eX9_takeKey_92, eX9_takeKey_93, eX9_takeKey_94, eX9_takeKey_97, eX9_takeKey_100, eX9_takeKey_101, if_pos, if_neg, if_true, if_false, Option.bind_some, Option.toList_some, Option.toList_none, List.cons_append, List.nil_append, ps13]
/-- no key -/
theorem z_takeKeyN {p : Nat} (h : RT S P n) (hp : p ≤ n) (hk : (ky P n p).1 = -6) : fX9_takeKey [vR 593] (PS S (p : Int) 0) = some (some (vI 0), PS S (p : Int) 1) := by
  obtain ⟨k9, -⟩ := k9_
  have hn := h.2.1
  have hx : ¬ (48 ≤ nx P n p ∧ nx P n p ≤ 57) := by
    intro y
    have hpn := nx_in (P := P) (n := n) (p := p) (by omega)
    have hb := kyL_b (P := P) (n := n) (f := 2) (v := nx P n p - 48) (p := p + 1) (by omega)
    unfold ky at hk
    rw [if_pos y] at hk
    omega
  have e := z_takeDigitN (c := 48) (d := 57) h (show p ≤ 80 by omega) ⟨by omega, by omega⟩ ⟨by omega, by omega⟩ hx
  rw [uX9_takeKey]
  simp (disch := omega) only [eX9_takeKey_0, eX9_takeKey_1, eX9_takeKey_3, eX9_takeKey_5, eX9_takeKey_8, eX9_takeKey_10, eX9_takeKey_13, eX9_takeKey_16, eX9_takeKey_17, eX9_takeKey_20, eX9_takeKey_21, eX9_takeKey_24, eX9_takeKey_26, eX9_takeKey_28, eX9_takeKey_31, eX9_takeKey_34, eX9_takeKey_36, eX9_takeKey_37, eX9_takeKey_38, eX9_takeKey_39, eX9_takeKey_42, eX9_takeKey_43, eX9_takeKey_45, eX9_takeKey_46, eX9_takeKey_47, eX9_takeKey_48, eX9_takeKey_49, eX9_takeKey_52, eX9_takeKey_55, eX9_takeKey_56, eX9_takeKey_59, eX9_takeKey_60, eX9_takeKey_63, eX9_takeKey_64, eX9_takeKey_67, eX9_takeKey_70, eX9_takeKey_71, eX9_takeKey_74, eX9_takeKey_75, eX9_takeKey_76, eX9_takeKey_77, eX9_takeKey_78, eX9_takeKey_81, eX9_takeKey_82, eX9_takeKey_85, eX9_takeKey_88, eX9_takeKey_89, eX9_takeKey_92, eX9_takeKey_93, eX9_takeKey_94, eX9_takeKey_97, eX9_takeKey_100, eX9_takeKey_101, if_pos, if_neg, if_true, if_false, Option.bind_some, Option.toList_some, Option.toList_none, List.cons_append, List.nil_append, e]
  rw [eX9_takeKey_9]
  simp (disch := omega) only [eX9_takeKey_0, eX9_takeKey_1, eX9_takeKey_3, eX9_takeKey_5, eX9_takeKey_8, eX9_takeKey_10, eX9_takeKey_13, eX9_takeKey_16, eX9_takeKey_17, eX9_takeKey_20, eX9_takeKey_21, eX9_takeKey_24, eX9_takeKey_26, eX9_takeKey_28, eX9_takeKey_31, eX9_takeKey_34, eX9_takeKey_36, eX9_takeKey_37, eX9_takeKey_38, eX9_takeKey_39, eX9_takeKey_42, eX9_takeKey_43, eX9_takeKey_45, eX9_takeKey_46, eX9_takeKey_47, eX9_takeKey_48, eX9_takeKey_49, eX9_takeKey_52, eX9_takeKey_55, eX9_takeKey_56, eX9_takeKey_59, eX9_takeKey_60, eX9_takeKey_63, eX9_takeKey_64, eX9_takeKey_67, eX9_takeKey_70, eX9_takeKey_71, eX9_takeKey_74, eX9_takeKey_75, eX9_takeKey_76, eX9_takeKey_77, eX9_takeKey_78, eX9_takeKey_81, eX9_takeKey_82, eX9_takeKey_85, eX9_takeKey_88, eX9_takeKey_89, eX9_takeKey_92, eX9_takeKey_93, eX9_takeKey_94, eX9_takeKey_97, eX9_takeKey_100, eX9_takeKey_101, if_pos, if_neg, if_true, if_false, Option.bind_some, Option.toList_some, Option.toList_none, List.cons_append, List.nil_append, ps13]
theorem z_takeKeyY {p : Nat} (h : RT S P n) (hp : p ≤ n) (hk : (ky P n p).1 ≠ -6) : fX9_takeKey [vR 593] (PS S (p : Int) 0) = some (some (vI (ky P n p).1), PS S ((ky P n p).2 : Int) (kbad P n (ky P n p))) := by
  obtain ⟨k9, -⟩ := k9_
  have hn := h.2.1
  unfold ky at hk ⊢
  by_cases y : 48 ≤ nx P n p ∧ nx P n p ≤ 57
  · rw [if_pos y] at hk ⊢
    have hpn := nx_in (P := P) (n := n) (p := p) (by omega)
    have e := z_takeDigitY (c := 48) (d := 57) h (show p ≤ 80 by omega) (by omega) (by omega) y
    have e2 := (l_key h 2 (p + 1) (nx P n p - 48) 0 (by omega) (by omega) (by
      by_cases z : nx P n p - 48 = 0
      · exact Or.inl z
      · refine Or.inr ⟨?_, by omega⟩
        show (1 : Int) ≤ nx P n p - 48
        omega)).2
    rw [← e2, uX9_takeKey]
    simp (disch := omega) only [eX9_takeKey_0, eX9_takeKey_1, eX9_takeKey_3, eX9_takeKey_5, eX9_takeKey_8, eX9_takeKey_10, eX9_takeKey_13, eX9_takeKey_16, eX9_takeKey_17, eX9_takeKey_20, eX9_takeKey_21, eX9_takeKey_24, eX9_takeKey_26, eX9_takeKey_28, eX9_takeKey_31, eX9_takeKey_34, eX9_takeKey_36, eX9_takeKey_37, eX9_takeKey_38, eX9_takeKey_39, eX9_takeKey_42, eX9_takeKey_43, eX9_takeKey_45, eX9_takeKey_46, eX9_takeKey_47, eX9_takeKey_48, eX9_takeKey_49, eX9_takeKey_52, eX9_takeKey_55, eX9_takeKey_56, eX9_takeKey_59, eX9_takeKey_60, eX9_takeKey_63, eX9_takeKey_64, eX9_takeKey_67, eX9_takeKey_70, eX9_takeKey_71, eX9_takeKey_74, eX9_takeKey_75, eX9_takeKey_76, eX9_takeKey_77, eX9_takeKey_78, eX9_takeKey_81, eX9_takeKey_82, eX9_takeKey_85, eX9_takeKey_88, eX9_takeKey_89, eX9_takeKey_92, eX9_takeKey_93, eX9_takeKey_94, eX9_takeKey_97, eX9_takeKey_100, eX9_takeKey_101, if_pos, if_neg, if_true, if_false, Option.bind_some, Option.toList_some, Option.toList_none, List.cons_append, List.nil_append, e]
  · rw [if_neg y] at hk
    exact absurd rfl hk
end MO22
