/-! the text: stones, floods, orders -/
theorem tf {C : Prop} (q : true = false) : C := Bool.noConfusion q
theorem ft {C : Prop} (q : false = true) : C := Bool.noConfusion q
section RD2
variable {P : Nat → Int} {n : Nat} {S : MM}
theorem s_readRepeats (h : TX S P n) {p : Nat} (hp : S 69 2 = (p : Int)) (hp8 : p ≤ 80) : fX2_readRepeats [vR 69] S = some (if 49 ≤ nx P n p ∧ nx P n p ≤ 57 then (some (vI 1), updM (updM S 69 7 (nx P n p - 48)) 69 2 ((p + 1 : Nat) : Int)) else (some (vI 0), S)) := by
  have k0 := k69
  have e := s_next h hp hp8
  have hb := nx_b h p
  have e1 := s_isBetween (S := S) (a := nx P n p) (b := 49) (c := 57) ⟨by omega, by omega⟩ ⟨by omega, by omega⟩ ⟨by omega, by omega⟩
  rw [uX2_readRepeats]
  by_cases d : 49 ≤ nx P n p ∧ nx P n p ≤ 57
  · rw [if_pos d] at e1 ⊢
    simp (disch := omega) only [eX2_readRepeats_0, eX2_readRepeats_1, eX2_readRepeats_4, eX2_readRepeats_6, eX2_readRepeats_8, eX2_readRepeats_11, eX2_readRepeats_14, eX2_readRepeats_15, eX2_readRepeats_16, eX2_readRepeats_17, eX2_readRepeats_18, eX2_readRepeats_21, eX2_readRepeats_23, eX2_readRepeats_24, eX2_readRepeats_27, eX2_readRepeats_28, eX2_readRepeats_29, eX2_readRepeats_32, eX2_readRepeats_33, eX2_readRepeats_34, eX2_readRepeats_37, eX2_readRepeats_38, if_pos, if_neg, if_true, if_false, Option.bind_some, Option.toList_some, Option.toList_none, List.cons_append, List.nil_append, e, e1, hp, updM_eq, up_ne]
    rfl
  · rw [if_neg d] at e1 ⊢
    simp (disch := omega) only [eX2_readRepeats_0, eX2_readRepeats_1, eX2_readRepeats_4, eX2_readRepeats_6, eX2_readRepeats_8, eX2_readRepeats_11, eX2_readRepeats_14, eX2_readRepeats_15, eX2_readRepeats_16, eX2_readRepeats_17, eX2_readRepeats_18, eX2_readRepeats_21, eX2_readRepeats_23, eX2_readRepeats_24, eX2_readRepeats_27, eX2_readRepeats_28, eX2_readRepeats_29, eX2_readRepeats_32, eX2_readRepeats_33, eX2_readRepeats_34, eX2_readRepeats_37, eX2_readRepeats_38, if_pos, if_neg, if_true, if_false, Option.bind_some, Option.toList_some, Option.toList_none, List.cons_append, List.nil_append, e, e1]
theorem l_stTail (h : TX S P n) {p : Nat} (hp : S 69 2 = (p : Int)) (hp8 : p ≤ 80) (x y : Int) : ∃ (b : Int) (S' : MM), rn xX2_readStones (54, [some (vR 69)], [], S) = some (some (vI b), S') ∧ S' 69 2 = ((stR P n x y p).2.1 : Int) ∧ ((stR P n x y p).1 = true → b = 1 ∧ S' 69 7 = (stR P n x y p).2.2.2.2 ∧ (stR P n x y p).2.2.1 = x ∧ (stR P n x y p).2.2.2.1 = y) ∧ ((stR P n x y p).1 = false → b = 0) ∧ (∀ j, j ≠ 2 → j ≠ 7 → S' 69 j = S 69 j) ∧ (∀ a, a ≠ 69 → S' a = S a) := by
  have k0 := k69
  have h1 : TX (updM S 69 7 1) P n := h.up (by omega)
  have hp1 : updM S 69 7 1 69 2 = (p : Int) := by rw [updM_eq, up_ne (by omega)]; exact hp
  have e1 := s_pass h1 hp1 hp8 (c := 42) (by omega)
  unfold stR
  by_cases c : nx P n p = 42
  · rw [if_pos c] at e1 ⊢
    have hpn := nx_in (P := P) (n := n) (p := p) (by omega)
    have hn8 := h.2.1
    have h2 : TX (updM (updM S 69 7 1) 69 2 ((p + 1 : Nat) : Int)) P n := h1.up (by omega)
    have e2 := s_readRepeats h2 (p := p + 1) (by rw [updM_eq, up_eq]) (by omega)
    by_cases d : 49 ≤ nx P n (p + 1) ∧ nx P n (p + 1) ≤ 57
    · rw [if_pos d] at e2 ⊢
      refine ⟨1, updM (updM (updM (updM S 69 7 1) 69 2 ((p + 1 : Nat) : Int)) 69 7 (nx P n (p + 1) - 48)) 69 2 ((p + 1 + 1 : Nat) : Int), ?_, ?_, fun _ => ⟨rfl, ?_, rfl, rfl⟩, fun q => tf q, ?_, ?_⟩
      · simp (disch := omega) only [eX2_readStones_0, eX2_readStones_1, eX2_readStones_2, eX2_readStones_5, eX2_readStones_8, eX2_readStones_9, eX2_readStones_12, eX2_readStones_14, eX2_readStones_17, eX2_readStones_18, eX2_readStones_19, eX2_readStones_20, eX2_readStones_21, eX2_readStones_23, eX2_readStones_26, eX2_readStones_29, eX2_readStones_30, eX2_readStones_33, eX2_readStones_36, eX2_readStones_37, eX2_readStones_40, eX2_readStones_43, eX2_readStones_44, eX2_readStones_47, eX2_readStones_49, eX2_readStones_52, eX2_readStones_53, eX2_readStones_54, eX2_readStones_55, eX2_readStones_56, eX2_readStones_59, eX2_readStones_60, eX2_readStones_62, eX2_readStones_65, eX2_readStones_68, eX2_readStones_69, eX2_readStones_72, eX2_readStones_75, eX2_readStones_76, eX2_readStones_79, eX2_readStones_80, if_pos, if_neg, if_true, if_false, Option.bind_some, Option.toList_some, Option.toList_none, List.cons_append, List.nil_append, e1, e2]
      · rw [updM_eq, up_eq]
      · rw [updM_eq, up_ne (by omega), updM_eq, up_eq]
      · intro j j2 j7
        rw [updM_eq, up_ne j2, updM_eq, up_ne j7, updM_eq, up_ne j2, updM_eq, up_ne j7]
      · intro a ha
        rw [updM_ne ha, updM_ne ha, updM_ne ha, updM_ne ha]
    · rw [if_neg d] at e2 ⊢
      refine ⟨0, updM (updM S 69 7 1) 69 2 ((p + 1 : Nat) : Int), ?_, ?_, fun q => ft q, fun _ => rfl, ?_, ?_⟩
      · simp (disch := omega) only [eX2_readStones_0, eX2_readStones_1, eX2_readStones_2, eX2_readStones_5, eX2_readStones_8, eX2_readStones_9, eX2_readStones_12, eX2_readStones_14, eX2_readStones_17, eX2_readStones_18, eX2_readStones_19, eX2_readStones_20, eX2_readStones_21, eX2_readStones_23, eX2_readStones_26, eX2_readStones_29, eX2_readStones_30, eX2_readStones_33, eX2_readStones_36, eX2_readStones_37, eX2_readStones_40, eX2_readStones_43, eX2_readStones_44, eX2_readStones_47, eX2_readStones_49, eX2_readStones_52, eX2_readStones_53, eX2_readStones_54, eX2_readStones_55, eX2_readStones_56, eX2_readStones_59, eX2_readStones_60, eX2_readStones_62, eX2_readStones_65, eX2_readStones_68, eX2_readStones_69, eX2_readStones_72, eX2_readStones_75, eX2_readStones_76, eX2_readStones_79, eX2_readStones_80, if_pos, if_neg, if_true, if_false, Option.bind_some, Option.toList_some, Option.toList_none, List.cons_append, List.nil_append, e1, e2]
      · rw [updM_eq, up_eq]
      · intro j j2 j7
        rw [updM_eq, up_ne j2, updM_eq, up_ne j7]
      · intro a ha
        rw [updM_ne ha, updM_ne ha]
  · rw [if_neg c] at e1 ⊢
    refine ⟨1, updM S 69 7 1, ?_, ?_, fun _ => ⟨rfl, ?_, rfl, rfl⟩, fun q => tf q, ?_, ?_⟩
    · simp (disch := omega) only [eX2_readStones_0, eX2_readStones_1, eX2_readStones_2, eX2_readStones_5, eX2_readStones_8, eX2_readStones_9, eX2_readStones_12, eX2_readStones_14, eX2_readStones_17, eX2_readStones_18, eX2_readStones_19, eX2_readStones_20, eX2_readStones_21, eX2_readStones_23, eX2_readStones_26, eX2_readStones_29, eX2_readStones_30, eX2_readStones_33, eX2_readStones_36, eX2_readStones_37, eX2_readStones_40, eX2_readStones_43, eX2_readStones_44, eX2_readStones_47, eX2_readStones_49, eX2_readStones_52, eX2_readStones_53, eX2_readStones_54, eX2_readStones_55, eX2_readStones_56, eX2_readStones_59, eX2_readStones_60, eX2_readStones_62, eX2_readStones_65, eX2_readStones_68, eX2_readStones_69, eX2_readStones_72, eX2_readStones_75, eX2_readStones_76, eX2_readStones_79, eX2_readStones_80, if_pos, if_neg, if_true, if_false, Option.bind_some, Option.toList_some, Option.toList_none, List.cons_append, List.nil_append, e1]
    · exact hp1
    · rw [updM_eq, up_eq]
    · intro j j2 j7
      rw [updM_eq, up_ne j7]
    · intro a ha
      rw [updM_ne ha]
theorem s_readStones (h : TX S P n) {p : Nat} (hp : S 69 2 = (p : Int)) (hp8 : p ≤ 80) : ∃ (b : Int) (S' : MM), fX2_readStones [vR 69] S = some (some (vI b), S') ∧ S' 69 2 = ((St P n p).2.1 : Int) ∧ ((St P n p).1 = true → b = 1 ∧ S' 69 5 = (St P n p).2.2.1 ∧ S' 69 6 = (St P n p).2.2.2.1 ∧ S' 69 7 = (St P n p).2.2.2.2) ∧ ((St P n p).1 = false → b = 0 ∨ (b = 1 ∧ 48 ≤ nx P n (St P n p).2.1 ∧ nx P n (St P n p).2.1 ≤ 57)) ∧ (∀ j, j ≠ 2 → j ≠ 5 → j ≠ 6 → j ≠ 7 → S' 69 j = S 69 j) ∧ (∀ a, a ≠ 69 → S' a = S a) := by
  have k0 := k69
  have hn8 := h.2.1
  obtain ⟨T1, e1, t1, t2, t3⟩ := s_readKey h hp hp8
  have hT1 : TX T1 P n := h.row (t2 1 (by omega)) (t3 70 (by omega))
  have hb := ky_b (P := P) (n := n) (p := p)
  unfold St
  generalize hv : (ky P n p).1 = v at *
  generalize hp1 : (ky P n p).2 = p1 at *
  have hT2 : TX (updM T1 69 5 v) P n := hT1.up (by omega)
  have q2 : updM T1 69 5 v 69 2 = (p1 : Int) := by rw [updM_eq, up_ne (by omega)]; exact t1
  have r5 : updM T1 69 5 v 69 5 = v := by rw [updM_eq, up_eq]
  rw [uX2_readStones]
  by_cases c : v = -6
  · rw [if_pos c]
    refine ⟨0, updM T1 69 5 v, ?_, ?_, fun q => ft q, fun _ => Or.inl rfl, ?_, ?_⟩
    · simp (disch := omega) only [eX2_readStones_0, eX2_readStones_1, eX2_readStones_2, eX2_readStones_5, eX2_readStones_8, eX2_readStones_9, eX2_readStones_12, eX2_readStones_14, eX2_readStones_17, eX2_readStones_18, eX2_readStones_19, eX2_readStones_20, eX2_readStones_21, eX2_readStones_23, eX2_readStones_26, eX2_readStones_29, eX2_readStones_30, eX2_readStones_33, eX2_readStones_36, eX2_readStones_37, eX2_readStones_40, eX2_readStones_43, eX2_readStones_44, eX2_readStones_47, eX2_readStones_49, eX2_readStones_52, eX2_readStones_53, eX2_readStones_54, eX2_readStones_55, eX2_readStones_56, eX2_readStones_59, eX2_readStones_60, eX2_readStones_62, eX2_readStones_65, eX2_readStones_68, eX2_readStones_69, eX2_readStones_72, eX2_readStones_75, eX2_readStones_76, eX2_readStones_79, eX2_readStones_80, if_pos, if_neg, if_true, if_false, Option.bind_some, Option.toList_some, Option.toList_none, List.cons_append, List.nil_append, e1, r5]
    · rw [q2]
      show (p1 : Int) = p
      omega
    · intro j j2 j5 j6 j7
      rw [updM_eq, up_ne j5, t2 j j2]
    · intro a ha
      rw [updM_ne ha, t3 a ha]
  · rw [if_neg c]
    have hv2 : 0 ≤ v ∧ v ≤ 299 ∧ p + 1 ≤ p1 ∧ p1 ≤ n ∧ p < n := by
      rcases hb with y | y
      · exact absurd y.1 c
      · exact y
    have e2 := s_pass hT2 q2 (by omega) (c := 45) (by omega)
    by_cases d : nx P n p1 = 45
    · rw [if_pos d] at e2
      rw [if_neg (fun y => by omega), if_pos d]
      have hpn := nx_in (P := P) (n := n) (p := p1) (by omega)
      have hT3 : TX (updM (updM T1 69 5 v) 69 2 ((p1 + 1 : Nat) : Int)) P n := hT2.up (by omega)
      obtain ⟨T4, e4, u1, u2, u3⟩ := s_readKey hT3 (p := p1 + 1) (by rw [updM_eq, up_eq]) (by omega)
      have hT4 : TX T4 P n := hT3.row (u2 1 (by omega)) (u3 70 (by omega))
      have hb2 := ky_b (P := P) (n := n) (p := p1 + 1)
      have r4 : T4 69 5 = v := by rw [u2 5 (by omega), updM_eq, up_ne (by omega)]; exact r5
      have fr : ∀ j, j ≠ 2 → j ≠ 5 → T4 69 j = S 69 j := fun j j2 j5 => by rw [u2 j j2, updM_eq, up_ne j2, updM_eq, up_ne j5, t2 j j2]
      have fa : ∀ a, a ≠ 69 → T4 a = S a := fun a ha => by rw [u3 a ha, updM_ne ha, updM_ne ha, t3 a ha]
      generalize hw : (ky P n (p1 + 1)).1 = w at *
      generalize hp2 : (ky P n (p1 + 1)).2 = p2 at *
      have hT5 : TX (updM T4 69 6 w) P n := hT4.up (by omega)
      have q5 : updM T4 69 6 w 69 2 = (p2 : Int) := by rw [updM_eq, up_ne (by omega)]; exact u1
      have r6 : updM T4 69 6 w 69 6 = w := by rw [updM_eq, up_eq]
      by_cases c2 : w = -6
      · rw [if_pos c2]
        refine ⟨0, updM T4 69 6 w, ?_, ?_, fun q => ft q, fun _ => Or.inl rfl, ?_, ?_⟩
        · simp (disch := omega) only [eX2_readStones_0, eX2_readStones_1, eX2_readStones_2, eX2_readStones_5, eX2_readStones_8, eX2_readStones_9, eX2_readStones_12, eX2_readStones_14, eX2_readStones_17, eX2_readStones_18, eX2_readStones_19, eX2_readStones_20, eX2_readStones_21, eX2_readStones_23, eX2_readStones_26, eX2_readStones_29, eX2_readStones_30, eX2_readStones_33, eX2_readStones_36, eX2_readStones_37, eX2_readStones_40, eX2_readStones_43, eX2_readStones_44, eX2_readStones_47, eX2_readStones_49, eX2_readStones_52, eX2_readStones_53, eX2_readStones_54, eX2_readStones_55, eX2_readStones_56, eX2_readStones_59, eX2_readStones_60, eX2_readStones_62, eX2_readStones_65, eX2_readStones_68, eX2_readStones_69, eX2_readStones_72, eX2_readStones_75, eX2_readStones_76, eX2_readStones_79, eX2_readStones_80, if_pos, if_neg, if_true, if_false, Option.bind_some, Option.toList_some, Option.toList_none, List.cons_append, List.nil_append, e1, r5, e2, e4, r6]
        · rw [q5]
          show (p2 : Int) = ((p1 + 1 : Nat) : Int)
          omega
        · intro j j2 j5 j6 j7
          rw [updM_eq, up_ne j6, fr j j2 j5]
        · intro a ha
          rw [updM_ne ha, fa a ha]
      · rw [if_neg c2]
        obtain ⟨b, T6, e6, w1, w2, w3, w4, w5⟩ := l_stTail hT5 q5 (by omega) v w
        have run : rn xX2_readStones (0, [some (vR 69)], [], S) = some (some (vI b), T6) := by
          rw [← e6]
          simp (disch := omega) only [eX2_readStones_0, eX2_readStones_1, eX2_readStones_2, eX2_readStones_5, eX2_readStones_8, eX2_readStones_9, eX2_readStones_12, eX2_readStones_14, eX2_readStones_17, eX2_readStones_18, eX2_readStones_19, eX2_readStones_20, eX2_readStones_21, eX2_readStones_23, eX2_readStones_26, eX2_readStones_29, eX2_readStones_30, eX2_readStones_33, eX2_readStones_36, eX2_readStones_37, eX2_readStones_40, eX2_readStones_43, eX2_readStones_44, eX2_readStones_47, eX2_readStones_49, eX2_readStones_52, eX2_readStones_53, eX2_readStones_54, eX2_readStones_55, eX2_readStones_56, eX2_readStones_59, eX2_readStones_60, eX2_readStones_62, eX2_readStones_65, eX2_readStones_68, eX2_readStones_69, eX2_readStones_72, eX2_readStones_75, eX2_readStones_76, eX2_readStones_79, eX2_readStones_80, if_pos, if_neg, if_true, if_false, Option.bind_some, Option.toList_some, Option.toList_none, List.cons_append, List.nil_append, e1, r5, e2, e4, r6]
        have g5 : T6 69 5 = v := by rw [w4 5 (by omega) (by omega), updM_eq, up_ne (by omega)]; exact r4
        have g6 : T6 69 6 = w := by rw [w4 6 (by omega) (by omega)]; exact r6
        by_cases bad : w ≠ 0 ∧ 48 ≤ nx P n p2 ∧ nx P n p2 ≤ 57
        · rw [if_pos bad]
          have hs : stR P n v w p2 = (true, p2, v, w, 1) := by unfold stR; rw [if_neg (fun y => by omega)]
          rw [hs] at w1 w2
          exact ⟨b, T6, run, w1, fun q => ft q, fun _ => Or.inr ⟨(w2 rfl).1, bad.2⟩, fun j j2 j5 j6 j7 => by rw [w4 j j2 j7, updM_eq, up_ne j6, fr j j2 j5], fun a ha => by rw [w5 a ha, updM_ne ha, fa a ha]⟩
        · rw [if_neg bad]
          exact ⟨b, T6, run, w1, fun q => ⟨(w2 q).1, by rw [g5, (w2 q).2.2.1], by rw [g6, (w2 q).2.2.2], (w2 q).2.1⟩, fun q => Or.inl (w3 q), fun j j2 j5 j6 j7 => by rw [w4 j j2 j7, updM_eq, up_ne j6, fr j j2 j5], fun a ha => by rw [w5 a ha, updM_ne ha, fa a ha]⟩
    · rw [if_neg d] at e2
      have hT5 : TX (updM (updM T1 69 5 v) 69 6 v) P n := hT2.up (by omega)
      have q5 : updM (updM T1 69 5 v) 69 6 v 69 2 = (p1 : Int) := by rw [updM_eq, up_ne (by omega)]; exact q2
      have r6 : updM (updM T1 69 5 v) 69 6 v 69 6 = v := by rw [updM_eq, up_eq]
      obtain ⟨b, T6, e6, w1, w2, w3, w4, w5⟩ := l_stTail hT5 q5 (by omega) v v
      have run : rn xX2_readStones (0, [some (vR 69)], [], S) = some (some (vI b), T6) := by
        rw [← e6]
        simp (disch := omega) only [eX2_readStones_0, eX2_readStones_1, eX2_readStones_2, eX2_readStones_5, eX2_readStones_8, eX2_readStones_9, eX2_readStones_12, eX2_readStones_14, eX2_readStones_17, eX2_readStones_18, eX2_readStones_19, eX2_readStones_20, eX2_readStones_21, eX2_readStones_23, eX2_readStones_26, eX2_readStones_29, eX2_readStones_30, eX2_readStones_33, eX2_readStones_36, eX2_readStones_37, eX2_readStones_40, eX2_readStones_43, eX2_readStones_44, eX2_readStones_47, eX2_readStones_49, eX2_readStones_52, eX2_readStones_53, eX2_readStones_54, eX2_readStones_55, eX2_readStones_56, eX2_readStones_59, eX2_readStones_60, eX2_readStones_62, eX2_readStones_65, eX2_readStones_68, eX2_readStones_69, eX2_readStones_72, eX2_readStones_75, eX2_readStones_76, eX2_readStones_79, eX2_readStones_80, if_pos, if_neg, if_true, if_false, Option.bind_some, Option.toList_some, Option.toList_none, List.cons_append, List.nil_append, e1, r5, e2, r6]
      have g5 : T6 69 5 = v := by rw [w4 5 (by omega) (by omega), updM_eq, up_ne (by omega)]; exact r5
      have g6 : T6 69 6 = v := by rw [w4 6 (by omega) (by omega)]; exact r6
      have fr : ∀ j, j ≠ 2 → j ≠ 5 → j ≠ 6 → j ≠ 7 → T6 69 j = S 69 j := fun j j2 j5 j6 j7 => by rw [w4 j j2 j7, updM_eq, up_ne j6, updM_eq, up_ne j5, t2 j j2]
      have fa : ∀ a, a ≠ 69 → T6 a = S a := fun a ha => by rw [w5 a ha, updM_ne ha, updM_ne ha, t3 a ha]
      by_cases bad : v ≠ 0 ∧ 48 ≤ nx P n p1 ∧ nx P n p1 ≤ 57
      · rw [if_pos bad]
        have hs : stR P n v v p1 = (true, p1, v, v, 1) := by unfold stR; rw [if_neg (fun y => by omega)]
        rw [hs] at w1 w2
        exact ⟨b, T6, run, w1, fun q => ft q, fun _ => Or.inr ⟨(w2 rfl).1, bad.2⟩, fr, fa⟩
      · rw [if_neg bad, if_neg d]
        exact ⟨b, T6, run, w1, fun q => ⟨(w2 q).1, by rw [g5, (w2 q).2.2.1], by rw [g6, (w2 q).2.2.2], (w2 q).2.1⟩, fun q => Or.inl (w3 q), fr, fa⟩
end RD2
