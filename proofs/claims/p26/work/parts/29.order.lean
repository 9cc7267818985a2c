/-! the pad's reader: orders and the first fault -/
section RD4
variable {P : Nat → Int} {n : Nat} {S : MM}
theorem s_readWalker (h : TX S P n) {p : Nat} (hp : S 69 2 = (p : Int)) (hp8 : p ≤ 80) : fX2_readWalker [vR 69] S = some (if 48 ≤ nx P n p ∧ nx P n p ≤ 50 then (some (vI 1), updM (updM S 69 4 (nx P n p - 48)) 69 2 ((p + 1 : Nat) : Int)) else (some (vI 0), S)) := by
  have k0 := k69
  have e := s_next h hp hp8
  have hb := nx_b h p
  have e1 := s_isBetween (S := S) (a := nx P n p) (b := 48) (c := 50) ⟨by omega, by omega⟩ ⟨by omega, by omega⟩ ⟨by omega, by omega⟩
  rw [uX2_readWalker]
  by_cases d : 48 ≤ nx P n p ∧ nx P n p ≤ 50
  · rw [if_pos d] at e1 ⊢
    simp (disch := omega) only [eX2_readWalker_0, eX2_readWalker_1, eX2_readWalker_4, eX2_readWalker_6, eX2_readWalker_8, eX2_readWalker_11, eX2_readWalker_14, eX2_readWalker_15, eX2_readWalker_16, eX2_readWalker_17, eX2_readWalker_18, eX2_readWalker_21, eX2_readWalker_23, eX2_readWalker_24, eX2_readWalker_27, eX2_readWalker_28, eX2_readWalker_29, eX2_readWalker_32, eX2_readWalker_33, eX2_readWalker_34, eX2_readWalker_37, eX2_readWalker_38, if_pos, if_neg, if_true, if_false, Option.bind_some, Option.toList_some, Option.toList_none, List.cons_append, List.nil_append, e, e1, hp, updM_eq, up_ne]
    rfl
  · rw [if_neg d] at e1 ⊢
    simp (disch := omega) only [eX2_readWalker_0, eX2_readWalker_1, eX2_readWalker_4, eX2_readWalker_6, eX2_readWalker_8, eX2_readWalker_11, eX2_readWalker_14, eX2_readWalker_15, eX2_readWalker_16, eX2_readWalker_17, eX2_readWalker_18, eX2_readWalker_21, eX2_readWalker_23, eX2_readWalker_24, eX2_readWalker_27, eX2_readWalker_28, eX2_readWalker_29, eX2_readWalker_32, eX2_readWalker_33, eX2_readWalker_34, eX2_readWalker_37, eX2_readWalker_38, if_pos, if_neg, if_true, if_false, Option.bind_some, Option.toList_some, Option.toList_none, List.cons_append, List.nil_append, e, e1]
/-- the rest of readFlood, from the walker's end -/
theorem l_flTail (h : TX S P n) {p : Nat} (hp : S 69 2 = ((p + 1 : Nat) : Int)) (hpn : p < n) (hg : nx P n p = 42 ∨ (48 ≤ nx P n p ∧ nx P n p ≤ 50)) (hw : S 69 4 = if nx P n p = 42 then -6 else nx P n p - 48) : ∃ (b : Int) (S' : MM), rn xX2_readFlood (27, [some (vR 69)], [], S) = some (some (vI b), S') ∧ S' 69 2 = ((Fl P n p).2.1 : Int) ∧ ((Fl P n p).1 = true → b = 1 ∧ S' 69 4 = (Fl P n p).2.2.1 ∧ S' 69 5 = (Fl P n p).2.2.2.1 ∧ S' 69 6 = (Fl P n p).2.2.2.2) ∧ ((Fl P n p).1 = false → b = 0 ∨ (b = 1 ∧ 48 ≤ nx P n (Fl P n p).2.1 ∧ nx P n (Fl P n p).2.1 ≤ 57)) ∧ S' 69 1 = S 69 1 ∧ S' 69 3 = S 69 3 ∧ (∀ a, a ≠ 69 → S' a = S a) := by
  have k0 := k69
  have hn8 := h.2.1
  have e1 := s_pass h hp (by omega) (c := 58) (by omega)
  unfold Fl
  rw [if_pos hg]
  generalize (if nx P n p = 42 then (-6 : Int) else nx P n p - 48) = wk at *
  by_cases e : nx P n (p + 1) = 58
  · rw [if_pos e] at e1 ⊢
    have hpn1 := nx_in2 e (by omega)
    have hT1 : TX (updM S 69 2 ((p + 1 + 1 : Nat) : Int)) P n := h.up (by omega)
    obtain ⟨T2, e2, t1, t2, t3⟩ := s_readKey hT1 (p := p + 2) (by rw [updM_eq, up_eq]) (by omega)
    have hT2 : TX T2 P n := hT1.row (t2 1 (by omega)) (t3 70 (by omega))
    have hb := ky_b (P := P) (n := n) (p := p + 2)
    have hb2 := ky_b (P := P) (n := n) (p := (ky P n (p + 2)).2 + 1)
    have fr : ∀ j, j ≠ 2 → T2 69 j = S 69 j := fun j j2 => by rw [t2 j j2, updM_eq, up_ne j2]
    have fa : ∀ a, a ≠ 69 → T2 a = S a := fun a ha => by rw [t3 a ha, updM_ne ha]
    generalize hv : (ky P n (p + 2)).1 = v at *
    generalize hp1 : (ky P n (p + 2)).2 = p1 at *
    have hT3 : TX (updM T2 69 5 v) P n := hT2.up (by omega)
    have q3 : updM T2 69 5 v 69 2 = (p1 : Int) := by rw [updM_eq, up_ne (by omega)]; exact t1
    have r5 : updM T2 69 5 v 69 5 = v := by rw [updM_eq, up_eq]
    by_cases c : v = -6
    · rw [if_pos c]
      refine ⟨0, updM T2 69 5 v, ?_, ?_, fun q => ft q, fun _ => Or.inl rfl, ?_, ?_, fun a ha => by rw [updM_ne ha, fa a ha]⟩
      · simp (disch := omega) only [eX2_readFlood_0, eX2_readFlood_1, eX2_readFlood_3, eX2_readFlood_6, eX2_readFlood_9, eX2_readFlood_10, eX2_readFlood_12, eX2_readFlood_15, eX2_readFlood_18, eX2_readFlood_19, eX2_readFlood_22, eX2_readFlood_25, eX2_readFlood_26, eX2_readFlood_27, eX2_readFlood_28, eX2_readFlood_30, eX2_readFlood_33, eX2_readFlood_36, eX2_readFlood_37, eX2_readFlood_38, eX2_readFlood_39, eX2_readFlood_40, eX2_readFlood_43, eX2_readFlood_46, eX2_readFlood_47, eX2_readFlood_50, eX2_readFlood_52, eX2_readFlood_55, eX2_readFlood_56, eX2_readFlood_58, eX2_readFlood_61, eX2_readFlood_64, eX2_readFlood_65, eX2_readFlood_66, eX2_readFlood_67, eX2_readFlood_68, eX2_readFlood_71, eX2_readFlood_74, eX2_readFlood_75, eX2_readFlood_78, eX2_readFlood_80, eX2_readFlood_83, eX2_readFlood_84, eX2_readFlood_87, eX2_readFlood_88, if_pos, if_neg, if_true, if_false, Option.bind_some, Option.toList_some, Option.toList_none, List.cons_append, List.nil_append, e1, e2, r5]
      · rw [q3]
        show (p1 : Int) = ((p + 2 : Nat) : Int)
        omega
      · rw [updM_eq, up_ne (by omega), fr 1 (by omega)]
      · rw [updM_eq, up_ne (by omega), fr 3 (by omega)]
    · rw [if_neg c]
      have hv2 : 0 ≤ v ∧ v ≤ 299 ∧ p + 2 + 1 ≤ p1 ∧ p1 ≤ n ∧ p + 2 < n := by
        rcases hb with y | y
        · exact absurd y.1 c
        · exact y
      have e4 := s_pass hT3 q3 (by omega) (c := 45) (by omega)
      by_cases d : nx P n p1 = 45
      · rw [if_pos d] at e4 ⊢
        have hpn2 := nx_in2 d (by omega)
        have hT4 : TX (updM (updM T2 69 5 v) 69 2 ((p1 + 1 : Nat) : Int)) P n := hT3.up (by omega)
        obtain ⟨T5, e5, u1, u2, u3⟩ := s_readKey hT4 (p := p1 + 1) (by rw [updM_eq, up_eq]) (by omega)
        have fr5 : ∀ j, j ≠ 2 → j ≠ 5 → T5 69 j = S 69 j := fun j j2 j5 => by rw [u2 j j2, updM_eq, up_ne j2, updM_eq, up_ne j5, fr j j2]
        have fa5 : ∀ a, a ≠ 69 → T5 a = S a := fun a ha => by rw [u3 a ha, updM_ne ha, updM_ne ha, fa a ha]
        have r55 : T5 69 5 = v := by rw [u2 5 (by omega), updM_eq, up_ne (by omega)]; exact r5
        generalize hw' : (ky P n (p1 + 1)).1 = w at *
        generalize hp2 : (ky P n (p1 + 1)).2 = p2 at *
        have q6 : updM T5 69 6 w 69 2 = (p2 : Int) := by rw [updM_eq, up_ne (by omega)]; exact u1
        have r6 : updM T5 69 6 w 69 6 = w := by rw [updM_eq, up_eq]
        have g1 : updM T5 69 6 w 69 1 = S 69 1 := by rw [updM_eq, up_ne (by omega), fr5 1 (by omega) (by omega)]
        have g3 : updM T5 69 6 w 69 3 = S 69 3 := by rw [updM_eq, up_ne (by omega), fr5 3 (by omega) (by omega)]
        have ga : ∀ a, a ≠ 69 → updM T5 69 6 w a = S a := fun a ha => by rw [updM_ne ha, fa5 a ha]
        by_cases c2 : w = -6
        · rw [if_pos c2]
          refine ⟨0, updM T5 69 6 w, ?_, ?_, fun q => ft q, fun _ => Or.inl rfl, g1, g3, ga⟩
          · simp (disch := omega) only [eX2_readFlood_0, eX2_readFlood_1, eX2_readFlood_3, eX2_readFlood_6, eX2_readFlood_9, eX2_readFlood_10, eX2_readFlood_12, eX2_readFlood_15, eX2_readFlood_18, eX2_readFlood_19, eX2_readFlood_22, eX2_readFlood_25, eX2_readFlood_26, eX2_readFlood_27, eX2_readFlood_28, eX2_readFlood_30, eX2_readFlood_33, eX2_readFlood_36, eX2_readFlood_37, eX2_readFlood_38, eX2_readFlood_39, eX2_readFlood_40, eX2_readFlood_43, eX2_readFlood_46, eX2_readFlood_47, eX2_readFlood_50, eX2_readFlood_52, eX2_readFlood_55, eX2_readFlood_56, eX2_readFlood_58, eX2_readFlood_61, eX2_readFlood_64, eX2_readFlood_65, eX2_readFlood_66, eX2_readFlood_67, eX2_readFlood_68, eX2_readFlood_71, eX2_readFlood_74, eX2_readFlood_75, eX2_readFlood_78, eX2_readFlood_80, eX2_readFlood_83, eX2_readFlood_84, eX2_readFlood_87, eX2_readFlood_88, if_pos, if_neg, if_true, if_false, Option.bind_some, Option.toList_some, Option.toList_none, List.cons_append, List.nil_append, e1, e2, r5, e4, e5, r6]
          · rw [q6]
            show (p2 : Int) = ((p1 + 1 : Nat) : Int)
            omega
        · rw [if_neg c2]
          have hw2 : 0 ≤ w ∧ w ≤ 299 := by
            rcases hb2 with y | y
            · exact absurd y.1 c2
            · exact ⟨y.1, y.2.1⟩
          have run : rn xX2_readFlood (27, [some (vR 69)], [], S) = some (some (vI 1), updM T5 69 6 w) := by
            simp (disch := omega) only [eX2_readFlood_0, eX2_readFlood_1, eX2_readFlood_3, eX2_readFlood_6, eX2_readFlood_9, eX2_readFlood_10, eX2_readFlood_12, eX2_readFlood_15, eX2_readFlood_18, eX2_readFlood_19, eX2_readFlood_22, eX2_readFlood_25, eX2_readFlood_26, eX2_readFlood_27, eX2_readFlood_28, eX2_readFlood_30, eX2_readFlood_33, eX2_readFlood_36, eX2_readFlood_37, eX2_readFlood_38, eX2_readFlood_39, eX2_readFlood_40, eX2_readFlood_43, eX2_readFlood_46, eX2_readFlood_47, eX2_readFlood_50, eX2_readFlood_52, eX2_readFlood_55, eX2_readFlood_56, eX2_readFlood_58, eX2_readFlood_61, eX2_readFlood_64, eX2_readFlood_65, eX2_readFlood_66, eX2_readFlood_67, eX2_readFlood_68, eX2_readFlood_71, eX2_readFlood_74, eX2_readFlood_75, eX2_readFlood_78, eX2_readFlood_80, eX2_readFlood_83, eX2_readFlood_84, eX2_readFlood_87, eX2_readFlood_88, if_pos, if_neg, if_true, if_false, Option.bind_some, Option.toList_some, Option.toList_none, List.cons_append, List.nil_append, e1, e2, r5, e4, e5, r6]
          by_cases bad : w ≠ 0 ∧ 48 ≤ nx P n p2 ∧ nx P n p2 ≤ 57
          · rw [if_pos bad]
            exact ⟨1, updM T5 69 6 w, run, q6, fun q => ft q, fun _ => Or.inr ⟨rfl, bad.2⟩, g1, g3, ga⟩
          · rw [if_neg bad]
            refine ⟨1, updM T5 69 6 w, run, q6, fun _ => ⟨rfl, ?_, ?_, r6⟩, fun q => tf q, g1, g3, ga⟩
            · rw [updM_eq, up_ne (by omega), fr5 4 (by omega) (by omega)]
              exact hw
            · rw [updM_eq, up_ne (by omega)]
              exact r55
      · rw [if_neg d] at e4 ⊢
        refine ⟨0, updM T2 69 5 v, ?_, q3, fun q => ft q, fun _ => Or.inl rfl, ?_, ?_, fun a ha => by rw [updM_ne ha, fa a ha]⟩
        · simp (disch := omega) only [eX2_readFlood_0, eX2_readFlood_1, eX2_readFlood_3, eX2_readFlood_6, eX2_readFlood_9, eX2_readFlood_10, eX2_readFlood_12, eX2_readFlood_15, eX2_readFlood_18, eX2_readFlood_19, eX2_readFlood_22, eX2_readFlood_25, eX2_readFlood_26, eX2_readFlood_27, eX2_readFlood_28, eX2_readFlood_30, eX2_readFlood_33, eX2_readFlood_36, eX2_readFlood_37, eX2_readFlood_38, eX2_readFlood_39, eX2_readFlood_40, eX2_readFlood_43, eX2_readFlood_46, eX2_readFlood_47, eX2_readFlood_50, eX2_readFlood_52, eX2_readFlood_55, eX2_readFlood_56, eX2_readFlood_58, eX2_readFlood_61, eX2_readFlood_64, eX2_readFlood_65, eX2_readFlood_66, eX2_readFlood_67, eX2_readFlood_68, eX2_readFlood_71, eX2_readFlood_74, eX2_readFlood_75, eX2_readFlood_78, eX2_readFlood_80, eX2_readFlood_83, eX2_readFlood_84, eX2_readFlood_87, eX2_readFlood_88, if_pos, if_neg, if_true, if_false, Option.bind_some, Option.toList_some, Option.toList_none, List.cons_append, List.nil_append, e1, e2, r5, e4]
        · rw [updM_eq, up_ne (by omega), fr 1 (by omega)]
        · rw [updM_eq, up_ne (by omega), fr 3 (by omega)]
  · rw [if_neg e] at e1 ⊢
    refine ⟨0, S, ?_, hp, fun q => ft q, fun _ => Or.inl rfl, rfl, rfl, fun _ _ => rfl⟩
    simp (disch := omega) only [eX2_readFlood_0, eX2_readFlood_1, eX2_readFlood_3, eX2_readFlood_6, eX2_readFlood_9, eX2_readFlood_10, eX2_readFlood_12, eX2_readFlood_15, eX2_readFlood_18, eX2_readFlood_19, eX2_readFlood_22, eX2_readFlood_25, eX2_readFlood_26, eX2_readFlood_27, eX2_readFlood_28, eX2_readFlood_30, eX2_readFlood_33, eX2_readFlood_36, eX2_readFlood_37, eX2_readFlood_38, eX2_readFlood_39, eX2_readFlood_40, eX2_readFlood_43, eX2_readFlood_46, eX2_readFlood_47, eX2_readFlood_50, eX2_readFlood_52, eX2_readFlood_55, eX2_readFlood_56, eX2_readFlood_58, eX2_readFlood_61, eX2_readFlood_64, eX2_readFlood_65, eX2_readFlood_66, eX2_readFlood_67, eX2_readFlood_68, eX2_readFlood_71, eX2_readFlood_74, eX2_readFlood_75, eX2_readFlood_78, eX2_readFlood_80, eX2_readFlood_83, eX2_readFlood_84, eX2_readFlood_87, eX2_readFlood_88, if_pos, if_neg, if_true, if_false, Option.bind_some, Option.toList_some, Option.toList_none, List.cons_append, List.nil_append, e1]
theorem s_readFlood (h : TX S P n) {p : Nat} (hp : S 69 2 = (p : Int)) (hp8 : p ≤ 80) : ∃ (b : Int) (S' : MM), fX2_readFlood [vR 69] S = some (some (vI b), S') ∧ S' 69 2 = ((Fl P n p).2.1 : Int) ∧ ((Fl P n p).1 = true → b = 1 ∧ S' 69 4 = (Fl P n p).2.2.1 ∧ S' 69 5 = (Fl P n p).2.2.2.1 ∧ S' 69 6 = (Fl P n p).2.2.2.2) ∧ ((Fl P n p).1 = false → b = 0 ∨ (b = 1 ∧ 48 ≤ nx P n (Fl P n p).2.1 ∧ nx P n (Fl P n p).2.1 ≤ 57)) ∧ S' 69 1 = S 69 1 ∧ S' 69 3 = S 69 3 ∧ (∀ a, a ≠ 69 → S' a = S a) := by
  have k0 := k69
  have e1 := s_pass h hp hp8 (c := 42) (by omega)
  rw [uX2_readFlood]
  by_cases c : nx P n p = 42
  · rw [if_pos c] at e1
    have hpn := nx_in2 c (by omega)
    have hT : TX (updM (updM S 69 2 ((p + 1 : Nat) : Int)) 69 4 (-6)) P n := (h.up (by omega)).up (by omega)
    obtain ⟨b, S', w1, w2, w3, w4, w5, w6, w7⟩ := l_flTail hT (p := p) (by rw [updM_eq, up_ne (by omega), updM_eq, up_eq]) hpn (Or.inl c) (by rw [updM_eq, up_eq, if_pos c])
    refine ⟨b, S', ?_, w2, w3, w4, ?_, ?_, fun a ha => by rw [w7 a ha, updM_ne ha, updM_ne ha]⟩
    · rw [← w1]
      simp (disch := omega) only [eX2_readFlood_0, eX2_readFlood_1, eX2_readFlood_3, eX2_readFlood_6, eX2_readFlood_9, eX2_readFlood_10, eX2_readFlood_12, eX2_readFlood_15, eX2_readFlood_18, eX2_readFlood_19, eX2_readFlood_22, eX2_readFlood_25, eX2_readFlood_26, eX2_readFlood_27, eX2_readFlood_28, eX2_readFlood_30, eX2_readFlood_33, eX2_readFlood_36, eX2_readFlood_37, eX2_readFlood_38, eX2_readFlood_39, eX2_readFlood_40, eX2_readFlood_43, eX2_readFlood_46, eX2_readFlood_47, eX2_readFlood_50, eX2_readFlood_52, eX2_readFlood_55, eX2_readFlood_56, eX2_readFlood_58, eX2_readFlood_61, eX2_readFlood_64, eX2_readFlood_65, eX2_readFlood_66, eX2_readFlood_67, eX2_readFlood_68, eX2_readFlood_71, eX2_readFlood_74, eX2_readFlood_75, eX2_readFlood_78, eX2_readFlood_80, eX2_readFlood_83, eX2_readFlood_84, eX2_readFlood_87, eX2_readFlood_88, if_pos, if_neg, if_true, if_false, Option.bind_some, Option.toList_some, Option.toList_none, List.cons_append, List.nil_append, e1]
    · rw [w5, updM_eq, up_ne (by omega), updM_eq, up_ne (by omega)]
    · rw [w6, updM_eq, up_ne (by omega), updM_eq, up_ne (by omega)]
  · rw [if_neg c] at e1
    have e2 := s_readWalker h hp hp8
    by_cases d : 48 ≤ nx P n p ∧ nx P n p ≤ 50
    · rw [if_pos d] at e2
      have hpn := nx_in (P := P) (n := n) (p := p) (by omega)
      have hT : TX (updM (updM S 69 4 (nx P n p - 48)) 69 2 ((p + 1 : Nat) : Int)) P n := (h.up (by omega)).up (by omega)
      obtain ⟨b, S', w1, w2, w3, w4, w5, w6, w7⟩ := l_flTail hT (p := p) (by rw [updM_eq, up_eq]) hpn (Or.inr d) (by rw [updM_eq, up_ne (by omega), updM_eq, up_eq, if_neg c])
      refine ⟨b, S', ?_, w2, w3, w4, ?_, ?_, fun a ha => by rw [w7 a ha, updM_ne ha, updM_ne ha]⟩
      · rw [← w1]
        simp (disch := omega) only [eX2_readFlood_0, eX2_readFlood_1, eX2_readFlood_3, eX2_readFlood_6, eX2_readFlood_9, eX2_readFlood_10, eX2_readFlood_12, eX2_readFlood_15, eX2_readFlood_18, eX2_readFlood_19, eX2_readFlood_22, eX2_readFlood_25, eX2_readFlood_26, eX2_readFlood_27, eX2_readFlood_28, eX2_readFlood_30, eX2_readFlood_33, eX2_readFlood_36, eX2_readFlood_37, eX2_readFlood_38, eX2_readFlood_39, eX2_readFlood_40, eX2_readFlood_43, eX2_readFlood_46, eX2_readFlood_47, eX2_readFlood_50, eX2_readFlood_52, eX2_readFlood_55, eX2_readFlood_56, eX2_readFlood_58, eX2_readFlood_61, eX2_readFlood_64, eX2_readFlood_65, eX2_readFlood_66, eX2_readFlood_67, eX2_readFlood_68, eX2_readFlood_71, eX2_readFlood_74, eX2_readFlood_75, eX2_readFlood_78, eX2_readFlood_80, eX2_readFlood_83, eX2_readFlood_84, eX2_readFlood_87, eX2_readFlood_88, if_pos, if_neg, if_true, if_false, Option.bind_some, Option.toList_some, Option.toList_none, List.cons_append, List.nil_append, e1, e2]
      · rw [w5, updM_eq, up_ne (by omega), updM_eq, up_ne (by omega)]
      · rw [w6, updM_eq, up_ne (by omega), updM_eq, up_ne (by omega)]
    · rw [if_neg d] at e2
      have hF : Fl P n p = (false, p, 0, 0, 0) := by
        unfold Fl
        rw [if_neg (fun y => y.elim c d)]
      rw [hF]
      refine ⟨0, S, ?_, hp, fun q => ft q, fun _ => Or.inl rfl, rfl, rfl, fun _ _ => rfl⟩
      simp (disch := omega) only [eX2_readFlood_0, eX2_readFlood_1, eX2_readFlood_3, eX2_readFlood_6, eX2_readFlood_9, eX2_readFlood_10, eX2_readFlood_12, eX2_readFlood_15, eX2_readFlood_18, eX2_readFlood_19, eX2_readFlood_22, eX2_readFlood_25, eX2_readFlood_26, eX2_readFlood_27, eX2_readFlood_28, eX2_readFlood_30, eX2_readFlood_33, eX2_readFlood_36, eX2_readFlood_37, eX2_readFlood_38, eX2_readFlood_39, eX2_readFlood_40, eX2_readFlood_43, eX2_readFlood_46, eX2_readFlood_47, eX2_readFlood_50, eX2_readFlood_52, eX2_readFlood_55, eX2_readFlood_56, eX2_readFlood_58, eX2_readFlood_61, eX2_readFlood_64, eX2_readFlood_65, eX2_readFlood_66, eX2_readFlood_67, eX2_readFlood_68, eX2_readFlood_71, eX2_readFlood_74, eX2_readFlood_75, eX2_readFlood_78, eX2_readFlood_80, eX2_readFlood_83, eX2_readFlood_84, eX2_readFlood_87, eX2_readFlood_88, if_pos, if_neg, if_true, if_false, Option.bind_some, Option.toList_some, Option.toList_none, List.cons_append, List.nil_append, e1, e2]
end RD4
