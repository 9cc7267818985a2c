/-! the pad's reader: orders and the first fault -/
section RD5
variable {P : Nat → Int} {n : Nat} {S : MM}
theorem s_readOrderA (h : TX S P n) {p : Nat} (hp : S 69 2 = (p : Int)) (hp8 : p ≤ 80) (hc : nx P n p = 100 ∨ nx P n p = 103 ∨ nx P n p = 108) : ∃ S', fX2_readOrder [vR 69] S = some (some (vI 1), S') ∧ S' 69 2 = ((p + 1 : Nat) : Int) ∧ S' 69 3 = nx P n p ∧ S' 69 1 = S 69 1 ∧ (∀ a, a ≠ 69 → S' a = S a) := by
  have k0 := k69
  have e := s_next h hp hp8
  have hb := nx_b h p
  have q2 : updM S 69 3 (nx P n p) 69 2 = (p : Int) := by rw [updM_eq, up_ne (by omega)]; exact hp
  have q3 : updM S 69 3 (nx P n p) 69 3 = nx P n p := by rw [updM_eq, up_eq]
  refine ⟨updM (updM S 69 3 (nx P n p)) 69 2 ((p + 1 : Nat) : Int), ?_, by rw [updM_eq, up_eq], by rw [updM_eq, up_ne (by omega)]; exact q3, by rw [updM_eq, up_ne (by omega), updM_eq, up_ne (by omega)], fun a ha => by rw [updM_ne ha, updM_ne ha]⟩
  rw [uX2_readOrder]
  by_cases c0 : nx P n p = 100
  · simp (disch := omega) only [eX2_readOrder_0, eX2_readOrder_1, eX2_readOrder_2, eX2_readOrder_5, eX2_readOrder_8, eX2_readOrder_9, eX2_readOrder_12, eX2_readOrder_14, eX2_readOrder_17, eX2_readOrder_18, eX2_readOrder_21, eX2_readOrder_23, eX2_readOrder_26, eX2_readOrder_27, eX2_readOrder_30, eX2_readOrder_32, eX2_readOrder_35, eX2_readOrder_36, eX2_readOrder_37, eX2_readOrder_40, eX2_readOrder_41, eX2_readOrder_42, eX2_readOrder_45, eX2_readOrder_46, eX2_readOrder_47, eX2_readOrder_48, eX2_readOrder_51, eX2_readOrder_53, eX2_readOrder_56, eX2_readOrder_57, eX2_readOrder_58, eX2_readOrder_61, eX2_readOrder_62, eX2_readOrder_63, eX2_readOrder_66, eX2_readOrder_67, eX2_readOrder_70, eX2_readOrder_71, eX2_readOrder_72, eX2_readOrder_75, eX2_readOrder_78, eX2_readOrder_79, eX2_readOrder_81, eX2_readOrder_84, eX2_readOrder_87, eX2_readOrder_88, eX2_readOrder_91, eX2_readOrder_92, if_pos, if_neg, if_true, if_false, Option.bind_some, Option.toList_some, Option.toList_none, List.cons_append, List.nil_append, e, q3, q2]
    rfl
  · by_cases c1 : nx P n p = 103
    · simp (disch := omega) only [eX2_readOrder_0, eX2_readOrder_1, eX2_readOrder_2, eX2_readOrder_5, eX2_readOrder_8, eX2_readOrder_9, eX2_readOrder_12, eX2_readOrder_14, eX2_readOrder_17, eX2_readOrder_18, eX2_readOrder_21, eX2_readOrder_23, eX2_readOrder_26, eX2_readOrder_27, eX2_readOrder_30, eX2_readOrder_32, eX2_readOrder_35, eX2_readOrder_36, eX2_readOrder_37, eX2_readOrder_40, eX2_readOrder_41, eX2_readOrder_42, eX2_readOrder_45, eX2_readOrder_46, eX2_readOrder_47, eX2_readOrder_48, eX2_readOrder_51, eX2_readOrder_53, eX2_readOrder_56, eX2_readOrder_57, eX2_readOrder_58, eX2_readOrder_61, eX2_readOrder_62, eX2_readOrder_63, eX2_readOrder_66, eX2_readOrder_67, eX2_readOrder_70, eX2_readOrder_71, eX2_readOrder_72, eX2_readOrder_75, eX2_readOrder_78, eX2_readOrder_79, eX2_readOrder_81, eX2_readOrder_84, eX2_readOrder_87, eX2_readOrder_88, eX2_readOrder_91, eX2_readOrder_92, if_pos, if_neg, if_true, if_false, Option.bind_some, Option.toList_some, Option.toList_none, List.cons_append, List.nil_append, e, q3, q2]
      rfl
    · have c2 : nx P n p = 108 := by omega
      simp (disch := omega) only [eX2_readOrder_0, eX2_readOrder_1, eX2_readOrder_2, eX2_readOrder_5, eX2_readOrder_8, eX2_readOrder_9, eX2_readOrder_12, eX2_readOrder_14, eX2_readOrder_17, eX2_readOrder_18, eX2_readOrder_21, eX2_readOrder_23, eX2_readOrder_26, eX2_readOrder_27, eX2_readOrder_30, eX2_readOrder_32, eX2_readOrder_35, eX2_readOrder_36, eX2_readOrder_37, eX2_readOrder_40, eX2_readOrder_41, eX2_readOrder_42, eX2_readOrder_45, eX2_readOrder_46, eX2_readOrder_47, eX2_readOrder_48, eX2_readOrder_51, eX2_readOrder_53, eX2_readOrder_56, eX2_readOrder_57, eX2_readOrder_58, eX2_readOrder_61, eX2_readOrder_62, eX2_readOrder_63, eX2_readOrder_66, eX2_readOrder_67, eX2_readOrder_70, eX2_readOrder_71, eX2_readOrder_72, eX2_readOrder_75, eX2_readOrder_78, eX2_readOrder_79, eX2_readOrder_81, eX2_readOrder_84, eX2_readOrder_87, eX2_readOrder_88, eX2_readOrder_91, eX2_readOrder_92, if_pos, if_neg, if_true, if_false, Option.bind_some, Option.toList_some, Option.toList_none, List.cons_append, List.nil_append, e, q3, q2]
      rfl
theorem s_readOrderB (h : TX S P n) {p : Nat} (hp : S 69 2 = (p : Int)) (hp8 : p ≤ 80) (hc : nx P n p = 102) : ∃ (b : Int) (S' : MM), fX2_readOrder [vR 69] S = some (some (vI b), S') ∧ S' 69 2 = ((Fl P n (p + 1)).2.1 : Int) ∧ ((Fl P n (p + 1)).1 = true → b = 1 ∧ S' 69 4 = (Fl P n (p + 1)).2.2.1 ∧ S' 69 5 = (Fl P n (p + 1)).2.2.2.1 ∧ S' 69 6 = (Fl P n (p + 1)).2.2.2.2) ∧ ((Fl P n (p + 1)).1 = false → b = 0 ∨ (b = 1 ∧ 48 ≤ nx P n (Fl P n (p + 1)).2.1 ∧ nx P n (Fl P n (p + 1)).2.1 ≤ 57)) ∧ S' 69 3 = 102 ∧ S' 69 1 = S 69 1 ∧ (∀ a, a ≠ 69 → S' a = S a) := by
  have k0 := k69
  have e := s_next h hp hp8
  have hpn := nx_in2 hc (by omega)
  have hn8 := h.2.1
  rw [hc] at e
  have q2 : updM S 69 3 102 69 2 = (p : Int) := by rw [updM_eq, up_ne (by omega)]; exact hp
  have q3 : updM S 69 3 102 69 3 = 102 := by rw [updM_eq, up_eq]
  have hT : TX (updM (updM S 69 3 102) 69 2 ((p + 1 : Nat) : Int)) P n := (h.up (by omega)).up (by omega)
  obtain ⟨b, S', w1, w2, w3, w4, w5, w6, w7⟩ := s_readFlood hT (p := p + 1) (by rw [updM_eq, up_eq]) (by omega)
  refine ⟨b, S', ?_, w2, w3, w4, by rw [w6, updM_eq, up_ne (by omega)]; exact q3, by rw [w5, updM_eq, up_ne (by omega), updM_eq, up_ne (by omega)], fun a ha => by rw [w7 a ha, updM_ne ha, updM_ne ha]⟩
  have c1 : ((p : Int) + 1) = ((p + 1 : Nat) : Int) := by omega
  have hbr : b = 0 ∨ b = 1 := by
    by_cases y : (Fl P n (p + 1)).1 = true
    · exact Or.inr (w3 y).1
    · rcases w4 (by simpa using y) with z | z
      · exact Or.inl z
      · exact Or.inr z.1
  rw [uX2_readOrder]
  simp (disch := omega) only [eX2_readOrder_0, eX2_readOrder_1, eX2_readOrder_2, eX2_readOrder_5, eX2_readOrder_8, eX2_readOrder_9, eX2_readOrder_12, eX2_readOrder_14, eX2_readOrder_17, eX2_readOrder_18, eX2_readOrder_21, eX2_readOrder_23, eX2_readOrder_26, eX2_readOrder_27, eX2_readOrder_30, eX2_readOrder_32, eX2_readOrder_35, eX2_readOrder_36, eX2_readOrder_37, eX2_readOrder_40, eX2_readOrder_41, eX2_readOrder_42, eX2_readOrder_45, eX2_readOrder_46, eX2_readOrder_47, eX2_readOrder_48, eX2_readOrder_51, eX2_readOrder_53, eX2_readOrder_56, eX2_readOrder_57, eX2_readOrder_58, eX2_readOrder_61, eX2_readOrder_62, eX2_readOrder_63, eX2_readOrder_66, eX2_readOrder_67, eX2_readOrder_70, eX2_readOrder_71, eX2_readOrder_72, eX2_readOrder_75, eX2_readOrder_78, eX2_readOrder_79, eX2_readOrder_81, eX2_readOrder_84, eX2_readOrder_87, eX2_readOrder_88, eX2_readOrder_91, eX2_readOrder_92, if_pos, if_neg, if_true, if_false, Option.bind_some, Option.toList_some, Option.toList_none, List.cons_append, List.nil_append, e, q3, q2, c1, w1]
theorem s_readOrderC (h : TX S P n) {p : Nat} (hp : S 69 2 = (p : Int)) (hp8 : p ≤ 80) (hc : 48 ≤ nx P n p ∧ nx P n p ≤ 50) : ∃ S', fX2_readOrder [vR 69] S = some (some (vI (if nx P n (p + 1) = 58 then 1 else 0)), S') ∧ S' 69 2 = (if nx P n (p + 1) = 58 then ((p + 2 : Nat) : Int) else ((p + 1 : Nat) : Int)) ∧ S' 69 4 = nx P n p - 48 ∧ S' 69 3 = nx P n p ∧ S' 69 1 = S 69 1 ∧ (∀ a, a ≠ 69 → S' a = S a) := by
  have k0 := k69
  have e := s_next h hp hp8
  have hb := nx_b h p
  have hpn := nx_in (P := P) (n := n) (p := p) (by omega)
  have hn8 := h.2.1
  have h1 : TX (updM S 69 3 (nx P n p)) P n := h.up (by omega)
  have q2 : updM S 69 3 (nx P n p) 69 2 = (p : Int) := by rw [updM_eq, up_ne (by omega)]; exact hp
  have q3 : updM S 69 3 (nx P n p) 69 3 = nx P n p := by rw [updM_eq, up_eq]
  have e1 := s_readWalker h1 q2 hp8
  rw [if_pos hc] at e1
  have h2 : TX (updM (updM (updM S 69 3 (nx P n p)) 69 4 (nx P n p - 48)) 69 2 ((p + 1 : Nat) : Int)) P n := (h1.up (by omega)).up (by omega)
  have e2 := s_pass h2 (p := p + 1) (by rw [updM_eq, up_eq]) (by omega) (c := 58) (by omega)
  have f1 : updM (updM (updM S 69 3 (nx P n p)) 69 4 (nx P n p - 48)) 69 2 ((p + 1 : Nat) : Int) 69 1 = S 69 1 := by rw [updM_eq, up_ne (by omega), updM_eq, up_ne (by omega), updM_eq, up_ne (by omega)]
  have f3 : updM (updM (updM S 69 3 (nx P n p)) 69 4 (nx P n p - 48)) 69 2 ((p + 1 : Nat) : Int) 69 3 = nx P n p := by rw [updM_eq, up_ne (by omega), updM_eq, up_ne (by omega)]; exact q3
  have f4 : updM (updM (updM S 69 3 (nx P n p)) 69 4 (nx P n p - 48)) 69 2 ((p + 1 : Nat) : Int) 69 4 = nx P n p - 48 := by rw [updM_eq, up_ne (by omega), updM_eq, up_eq]
  have fa : ∀ a, a ≠ 69 → updM (updM (updM S 69 3 (nx P n p)) 69 4 (nx P n p - 48)) 69 2 ((p + 1 : Nat) : Int) a = S a := fun a ha => by rw [updM_ne ha, updM_ne ha, updM_ne ha]
  have f2 : updM (updM (updM S 69 3 (nx P n p)) 69 4 (nx P n p - 48)) 69 2 ((p + 1 : Nat) : Int) 69 2 = ((p + 1 : Nat) : Int) := by rw [updM_eq, up_eq]
  generalize hX : updM (updM (updM S 69 3 (nx P n p)) 69 4 (nx P n p - 48)) 69 2 ((p + 1 : Nat) : Int) = X at *
  rw [uX2_readOrder]
  by_cases d : nx P n (p + 1) = 58
  · rw [if_pos d] at e2 ⊢
    rw [if_pos d]
    refine ⟨updM X 69 2 ((p + 1 + 1 : Nat) : Int), ?_, by rw [updM_eq, up_eq], by rw [updM_eq, up_ne (by omega)]; exact f4, by rw [updM_eq, up_ne (by omega)]; exact f3, by rw [updM_eq, up_ne (by omega)]; exact f1, fun a ha => by rw [updM_ne ha]; exact fa a ha⟩
    simp (disch := omega) only [eX2_readOrder_0, eX2_readOrder_1, eX2_readOrder_2, eX2_readOrder_5, eX2_readOrder_8, eX2_readOrder_9, eX2_readOrder_12, eX2_readOrder_14, eX2_readOrder_17, eX2_readOrder_18, eX2_readOrder_21, eX2_readOrder_23, eX2_readOrder_26, eX2_readOrder_27, eX2_readOrder_30, eX2_readOrder_32, eX2_readOrder_35, eX2_readOrder_36, eX2_readOrder_37, eX2_readOrder_40, eX2_readOrder_41, eX2_readOrder_42, eX2_readOrder_45, eX2_readOrder_46, eX2_readOrder_47, eX2_readOrder_48, eX2_readOrder_51, eX2_readOrder_53, eX2_readOrder_56, eX2_readOrder_57, eX2_readOrder_58, eX2_readOrder_61, eX2_readOrder_62, eX2_readOrder_63, eX2_readOrder_66, eX2_readOrder_67, eX2_readOrder_70, eX2_readOrder_71, eX2_readOrder_72, eX2_readOrder_75, eX2_readOrder_78, eX2_readOrder_79, eX2_readOrder_81, eX2_readOrder_84, eX2_readOrder_87, eX2_readOrder_88, eX2_readOrder_91, eX2_readOrder_92, if_pos, if_neg, if_true, if_false, Option.bind_some, Option.toList_some, Option.toList_none, List.cons_append, List.nil_append, e, q3, q2, e1, e2]
  · rw [if_neg d] at e2 ⊢
    rw [if_neg d]
    refine ⟨X, ?_, f2, f4, f3, f1, fa⟩
    simp (disch := omega) only [eX2_readOrder_0, eX2_readOrder_1, eX2_readOrder_2, eX2_readOrder_5, eX2_readOrder_8, eX2_readOrder_9, eX2_readOrder_12, eX2_readOrder_14, eX2_readOrder_17, eX2_readOrder_18, eX2_readOrder_21, eX2_readOrder_23, eX2_readOrder_26, eX2_readOrder_27, eX2_readOrder_30, eX2_readOrder_32, eX2_readOrder_35, eX2_readOrder_36, eX2_readOrder_37, eX2_readOrder_40, eX2_readOrder_41, eX2_readOrder_42, eX2_readOrder_45, eX2_readOrder_46, eX2_readOrder_47, eX2_readOrder_48, eX2_readOrder_51, eX2_readOrder_53, eX2_readOrder_56, eX2_readOrder_57, eX2_readOrder_58, eX2_readOrder_61, eX2_readOrder_62, eX2_readOrder_63, eX2_readOrder_66, eX2_readOrder_67, eX2_readOrder_70, eX2_readOrder_71, eX2_readOrder_72, eX2_readOrder_75, eX2_readOrder_78, eX2_readOrder_79, eX2_readOrder_81, eX2_readOrder_84, eX2_readOrder_87, eX2_readOrder_88, eX2_readOrder_91, eX2_readOrder_92, if_pos, if_neg, if_true, if_false, Option.bind_some, Option.toList_some, Option.toList_none, List.cons_append, List.nil_append, e, q3, q2, e1, e2]
theorem s_readOrderD (h : TX S P n) {p : Nat} (hp : S 69 2 = (p : Int)) (hp8 : p ≤ 80) (h1 : ¬ (nx P n p = 100 ∨ nx P n p = 103 ∨ nx P n p = 108)) (h2 : nx P n p ≠ 102) (h3 : ¬ (48 ≤ nx P n p ∧ nx P n p ≤ 50)) : ∃ S', fX2_readOrder [vR 69] S = some (some (vI 0), S') ∧ S' 69 2 = (p : Int) ∧ S' 69 3 = nx P n p ∧ S' 69 1 = S 69 1 ∧ (∀ a, a ≠ 69 → S' a = S a) := by
  have k0 := k69
  have e := s_next h hp hp8
  have hb := nx_b h p
  have hT : TX (updM S 69 3 (nx P n p)) P n := h.up (by omega)
  have q2 : updM S 69 3 (nx P n p) 69 2 = (p : Int) := by rw [updM_eq, up_ne (by omega)]; exact hp
  have q3 : updM S 69 3 (nx P n p) 69 3 = nx P n p := by rw [updM_eq, up_eq]
  have e1 := s_readWalker hT q2 hp8
  rw [if_neg h3] at e1
  refine ⟨updM S 69 3 (nx P n p), ?_, q2, q3, by rw [updM_eq, up_ne (by omega)], fun a ha => updM_ne ha⟩
  rw [uX2_readOrder]
  simp (disch := omega) only [eX2_readOrder_0, eX2_readOrder_1, eX2_readOrder_2, eX2_readOrder_5, eX2_readOrder_8, eX2_readOrder_9, eX2_readOrder_12, eX2_readOrder_14, eX2_readOrder_17, eX2_readOrder_18, eX2_readOrder_21, eX2_readOrder_23, eX2_readOrder_26, eX2_readOrder_27, eX2_readOrder_30, eX2_readOrder_32, eX2_readOrder_35, eX2_readOrder_36, eX2_readOrder_37, eX2_readOrder_40, eX2_readOrder_41, eX2_readOrder_42, eX2_readOrder_45, eX2_readOrder_46, eX2_readOrder_47, eX2_readOrder_48, eX2_readOrder_51, eX2_readOrder_53, eX2_readOrder_56, eX2_readOrder_57, eX2_readOrder_58, eX2_readOrder_61, eX2_readOrder_62, eX2_readOrder_63, eX2_readOrder_66, eX2_readOrder_67, eX2_readOrder_70, eX2_readOrder_71, eX2_readOrder_72, eX2_readOrder_75, eX2_readOrder_78, eX2_readOrder_79, eX2_readOrder_81, eX2_readOrder_84, eX2_readOrder_87, eX2_readOrder_88, eX2_readOrder_91, eX2_readOrder_92, if_pos, if_neg, if_true, if_false, Option.bind_some, Option.toList_some, Option.toList_none, List.cons_append, List.nil_append, e, q3, q2, e1]
theorem l_whole : ∀ (f i : Nat) (S : MM) (p : Nat), i + f = 80 → TX S P n → S 69 2 = (p : Int) → p ≤ n → n < p + 2 * f → ∃ (b : Int) (S' : MM), rn xX2_readWholeOrder (27, [some (vR 69), some (vI i)], [], S) = some (some (vI b), S') ∧ S' 69 2 = ((Lst P n f p).2.1 : Int) ∧ ((Lst P n f p).1 = true → b = 1) ∧ ((Lst P n f p).1 = false → b = 0 ∨ (b = 1 ∧ 48 ≤ nx P n (Lst P n f p).2.1 ∧ nx P n (Lst P n f p).2.1 ≤ 57)) ∧ S' 69 1 = S 69 1 ∧ (∀ a, a ≠ 69 → S' a = S a) := by
  intro f
  induction f with
  | zero => intro i S p _ _ _ h1 h2; omega
  | succ f ih =>
    intro i S p hi hT hp hpn hf
    have k0 := k69
    have hn8 := hT.2.1
    obtain ⟨b, T, e1, t1, t2, t3, t4, t5⟩ := s_readStones hT hp (by omega)
    obtain ⟨g1, g2, g3⟩ := St_b (P := P) hpn
    have hT1 : TX T P n := hT.row (t4 1 (by omega) (by omega) (by omega) (by omega)) (t5 70 (by omega))
    have e2 := s_pass hT1 t1 (by omega) (c := 44) (by omega)
    have f1 : T 69 1 = S 69 1 := t4 1 (by omega) (by omega) (by omega) (by omega)
    rw [Lst, eX2_readWholeOrder_27]
    by_cases c : (St P n p).1 = true
    · rw [if_pos c]
      have hb := (t2 c).1
      subst hb
      obtain ⟨g4, g5, -⟩ := g3 c
      by_cases d : nx P n (St P n p).2.1 = 44
      · rw [if_pos d] at e2 ⊢
        have hq := nx_in2 d (by omega)
        obtain ⟨b2, S', w1, w2, w3, w4, w5, w6⟩ := ih (i + 1) (updM T 69 2 (((St P n p).2.1 + 1 : Nat) : Int)) ((St P n p).2.1 + 1) (by omega) (hT1.up (by omega)) (by rw [updM_eq, up_eq]) (by omega) (by omega)
        refine ⟨b2, S', ?_, w2, w3, w4, by rw [w5, updM_eq, up_ne (by omega), f1], fun a ha => by rw [w6 a ha, updM_ne ha, t5 a ha]⟩
        rw [← w1]
        simp (disch := omega) only [eX2_readWholeOrder_0, eX2_readWholeOrder_1, eX2_readWholeOrder_4, eX2_readWholeOrder_7, eX2_readWholeOrder_8, eX2_readWholeOrder_9, eX2_readWholeOrder_10, eX2_readWholeOrder_13, eX2_readWholeOrder_15, eX2_readWholeOrder_17, eX2_readWholeOrder_20, eX2_readWholeOrder_23, eX2_readWholeOrder_24, eX2_readWholeOrder_25, eX2_readWholeOrder_26, eX2_readWholeOrder_28, eX2_readWholeOrder_30, eX2_readWholeOrder_33, eX2_readWholeOrder_34, eX2_readWholeOrder_37, eX2_readWholeOrder_40, eX2_readWholeOrder_41, eX2_readWholeOrder_42, eX2_readWholeOrder_43, eX2_readWholeOrder_45, eX2_readWholeOrder_48, eX2_readWholeOrder_51, eX2_readWholeOrder_52, eX2_readWholeOrder_53, eX2_readWholeOrder_56, eX2_readWholeOrder_59, eX2_readWholeOrder_60, if_pos, if_neg, if_true, if_false, Option.bind_some, Option.toList_some, Option.toList_none, List.cons_append, List.nil_append, e1, e2]
        rw [show ((i : Int) + 1) = ((i + 1 : Nat) : Int) by omega]
      · rw [if_neg d] at e2 ⊢
        refine ⟨1, T, ?_, t1, fun _ => rfl, fun q => tf q, f1, t5⟩
        simp (disch := omega) only [eX2_readWholeOrder_0, eX2_readWholeOrder_1, eX2_readWholeOrder_4, eX2_readWholeOrder_7, eX2_readWholeOrder_8, eX2_readWholeOrder_9, eX2_readWholeOrder_10, eX2_readWholeOrder_13, eX2_readWholeOrder_15, eX2_readWholeOrder_17, eX2_readWholeOrder_20, eX2_readWholeOrder_23, eX2_readWholeOrder_24, eX2_readWholeOrder_25, eX2_readWholeOrder_26, eX2_readWholeOrder_28, eX2_readWholeOrder_30, eX2_readWholeOrder_33, eX2_readWholeOrder_34, eX2_readWholeOrder_37, eX2_readWholeOrder_40, eX2_readWholeOrder_41, eX2_readWholeOrder_42, eX2_readWholeOrder_43, eX2_readWholeOrder_45, eX2_readWholeOrder_48, eX2_readWholeOrder_51, eX2_readWholeOrder_52, eX2_readWholeOrder_53, eX2_readWholeOrder_56, eX2_readWholeOrder_59, eX2_readWholeOrder_60, if_pos, if_neg, if_true, if_false, Option.bind_some, Option.toList_some, Option.toList_none, List.cons_append, List.nil_append, e1, e2]
    · rw [if_neg c]
      have c' : (St P n p).1 = false := by simpa using c
      rcases t3 c' with hb | ⟨hb, y1, y2⟩
      · subst hb
        refine ⟨0, T, ?_, t1, fun q => ft q, fun _ => Or.inl rfl, f1, t5⟩
        simp (disch := omega) only [eX2_readWholeOrder_0, eX2_readWholeOrder_1, eX2_readWholeOrder_4, eX2_readWholeOrder_7, eX2_readWholeOrder_8, eX2_readWholeOrder_9, eX2_readWholeOrder_10, eX2_readWholeOrder_13, eX2_readWholeOrder_15, eX2_readWholeOrder_17, eX2_readWholeOrder_20, eX2_readWholeOrder_23, eX2_readWholeOrder_24, eX2_readWholeOrder_25, eX2_readWholeOrder_26, eX2_readWholeOrder_28, eX2_readWholeOrder_30, eX2_readWholeOrder_33, eX2_readWholeOrder_34, eX2_readWholeOrder_37, eX2_readWholeOrder_40, eX2_readWholeOrder_41, eX2_readWholeOrder_42, eX2_readWholeOrder_43, eX2_readWholeOrder_45, eX2_readWholeOrder_48, eX2_readWholeOrder_51, eX2_readWholeOrder_52, eX2_readWholeOrder_53, eX2_readWholeOrder_56, eX2_readWholeOrder_59, eX2_readWholeOrder_60, if_pos, if_neg, if_true, if_false, Option.bind_some, Option.toList_some, Option.toList_none, List.cons_append, List.nil_append, e1]
      · subst hb
        rw [if_neg (by omega)] at e2
        refine ⟨1, T, ?_, t1, fun q => ft q, fun _ => Or.inr ⟨rfl, y1, y2⟩, f1, t5⟩
        simp (disch := omega) only [eX2_readWholeOrder_0, eX2_readWholeOrder_1, eX2_readWholeOrder_4, eX2_readWholeOrder_7, eX2_readWholeOrder_8, eX2_readWholeOrder_9, eX2_readWholeOrder_10, eX2_readWholeOrder_13, eX2_readWholeOrder_15, eX2_readWholeOrder_17, eX2_readWholeOrder_20, eX2_readWholeOrder_23, eX2_readWholeOrder_24, eX2_readWholeOrder_25, eX2_readWholeOrder_26, eX2_readWholeOrder_28, eX2_readWholeOrder_30, eX2_readWholeOrder_33, eX2_readWholeOrder_34, eX2_readWholeOrder_37, eX2_readWholeOrder_40, eX2_readWholeOrder_41, eX2_readWholeOrder_42, eX2_readWholeOrder_43, eX2_readWholeOrder_45, eX2_readWholeOrder_48, eX2_readWholeOrder_51, eX2_readWholeOrder_52, eX2_readWholeOrder_53, eX2_readWholeOrder_56, eX2_readWholeOrder_59, eX2_readWholeOrder_60, if_pos, if_neg, if_true, if_false, Option.bind_some, Option.toList_some, Option.toList_none, List.cons_append, List.nil_append, e1, e2]
theorem s_readWhole (h : TX S P n) {p : Nat} (hp : S 69 2 = (p : Int)) (hpn : p ≤ n) : ∃ (b : Int) (S' : MM), fX2_readWholeOrder [vR 69] S = some (some (vI b), S') ∧ S' 69 2 = ((Od P n p).2.1 : Int) ∧ ((Od P n p).1 = true → b = 1) ∧ ((Od P n p).1 = false → b = 0 ∨ (b = 1 ∧ 48 ≤ nx P n (Od P n p).2.1 ∧ nx P n (Od P n p).2.1 ≤ 57)) ∧ S' 69 1 = S 69 1 ∧ (∀ a, a ≠ 69 → S' a = S a) := by
  have k0 := k69
  have hn8 := h.2.1
  have hb := nx_b h p
  rw [uX2_readWholeOrder]
  by_cases cA : nx P n p = 100 ∨ nx P n p = 103 ∨ nx P n p = 108
  · obtain ⟨T, e1, t1, t2, t3, t4⟩ := s_readOrderA h hp (by omega) cA
    have hO : Od P n p = (true, p + 1, nx P n p, 0, []) := by unfold Od; rw [if_pos cA]
    rw [hO]
    have e2 := s_isBetween (S := T) (a := nx P n p) (b := 48) (c := 50) ⟨by omega, by omega⟩ ⟨by omega, by omega⟩ ⟨by omega, by omega⟩
    rw [if_neg (by omega)] at e2
    refine ⟨1, T, ?_, t1, fun _ => rfl, fun q => tf q, t3, t4⟩
    simp (disch := omega) only [eX2_readWholeOrder_0, eX2_readWholeOrder_1, eX2_readWholeOrder_4, eX2_readWholeOrder_7, eX2_readWholeOrder_8, eX2_readWholeOrder_9, eX2_readWholeOrder_10, eX2_readWholeOrder_13, eX2_readWholeOrder_15, eX2_readWholeOrder_17, eX2_readWholeOrder_20, eX2_readWholeOrder_23, eX2_readWholeOrder_24, eX2_readWholeOrder_25, eX2_readWholeOrder_26, eX2_readWholeOrder_28, eX2_readWholeOrder_30, eX2_readWholeOrder_33, eX2_readWholeOrder_34, eX2_readWholeOrder_37, eX2_readWholeOrder_40, eX2_readWholeOrder_41, eX2_readWholeOrder_42, eX2_readWholeOrder_43, eX2_readWholeOrder_45, eX2_readWholeOrder_48, eX2_readWholeOrder_51, eX2_readWholeOrder_52, eX2_readWholeOrder_53, eX2_readWholeOrder_56, eX2_readWholeOrder_59, eX2_readWholeOrder_60, if_pos, if_neg, if_true, if_false, Option.bind_some, Option.toList_some, Option.toList_none, List.cons_append, List.nil_append, e1, t2, e2]
  · by_cases cB : nx P n p = 102
    · obtain ⟨b, T, e1, t1, t2, t3, t4, t5, t6⟩ := s_readOrderB h hp (by omega) cB
      have hO : (Od P n p).1 = (Fl P n (p + 1)).1 ∧ (Od P n p).2.1 = (Fl P n (p + 1)).2.1 := by unfold Od; rw [if_neg cA, if_pos cB]; exact ⟨rfl, rfl⟩
      rw [hO.1, hO.2]
      have e2 := s_isBetween (S := T) (a := 102) (b := 48) (c := 50) ⟨by omega, by omega⟩ ⟨by omega, by omega⟩ ⟨by omega, by omega⟩
      rw [if_neg (by omega)] at e2
      have hbr : b = 0 ∨ b = 1 := by
        by_cases y : (Fl P n (p + 1)).1 = true
        · exact Or.inr (t2 y).1
        · rcases t3 (by simpa using y) with z | z
          · exact Or.inl z
          · exact Or.inr z.1
      refine ⟨b, T, ?_, t1, fun q => (t2 q).1, t3, t5, t6⟩
      rcases hbr with hb' | hb'
      · subst hb'
        simp (disch := omega) only [eX2_readWholeOrder_0, eX2_readWholeOrder_1, eX2_readWholeOrder_4, eX2_readWholeOrder_7, eX2_readWholeOrder_8, eX2_readWholeOrder_9, eX2_readWholeOrder_10, eX2_readWholeOrder_13, eX2_readWholeOrder_15, eX2_readWholeOrder_17, eX2_readWholeOrder_20, eX2_readWholeOrder_23, eX2_readWholeOrder_24, eX2_readWholeOrder_25, eX2_readWholeOrder_26, eX2_readWholeOrder_28, eX2_readWholeOrder_30, eX2_readWholeOrder_33, eX2_readWholeOrder_34, eX2_readWholeOrder_37, eX2_readWholeOrder_40, eX2_readWholeOrder_41, eX2_readWholeOrder_42, eX2_readWholeOrder_43, eX2_readWholeOrder_45, eX2_readWholeOrder_48, eX2_readWholeOrder_51, eX2_readWholeOrder_52, eX2_readWholeOrder_53, eX2_readWholeOrder_56, eX2_readWholeOrder_59, eX2_readWholeOrder_60, if_pos, if_neg, if_true, if_false, Option.bind_some, Option.toList_some, Option.toList_none, List.cons_append, List.nil_append, e1]
      · subst hb'
        simp (disch := omega) only [eX2_readWholeOrder_0, eX2_readWholeOrder_1, eX2_readWholeOrder_4, eX2_readWholeOrder_7, eX2_readWholeOrder_8, eX2_readWholeOrder_9, eX2_readWholeOrder_10, eX2_readWholeOrder_13, eX2_readWholeOrder_15, eX2_readWholeOrder_17, eX2_readWholeOrder_20, eX2_readWholeOrder_23, eX2_readWholeOrder_24, eX2_readWholeOrder_25, eX2_readWholeOrder_26, eX2_readWholeOrder_28, eX2_readWholeOrder_30, eX2_readWholeOrder_33, eX2_readWholeOrder_34, eX2_readWholeOrder_37, eX2_readWholeOrder_40, eX2_readWholeOrder_41, eX2_readWholeOrder_42, eX2_readWholeOrder_43, eX2_readWholeOrder_45, eX2_readWholeOrder_48, eX2_readWholeOrder_51, eX2_readWholeOrder_52, eX2_readWholeOrder_53, eX2_readWholeOrder_56, eX2_readWholeOrder_59, eX2_readWholeOrder_60, if_pos, if_neg, if_true, if_false, Option.bind_some, Option.toList_some, Option.toList_none, List.cons_append, List.nil_append, e1, t4, e2]
    · by_cases cC : 48 ≤ nx P n p ∧ nx P n p ≤ 50
      · obtain ⟨T, e1, t1, t2, t3, t4, t5⟩ := s_readOrderC h hp (by omega) cC
        have e2 := s_isBetween (S := T) (a := nx P n p) (b := 48) (c := 50) ⟨by omega, by omega⟩ ⟨by omega, by omega⟩ ⟨by omega, by omega⟩
        rw [if_pos cC] at e2
        by_cases d : nx P n (p + 1) = 58
        · rw [if_pos d] at e1 t1
          have hO : (Od P n p).1 = (Lst P n 80 (p + 2)).1 ∧ (Od P n p).2.1 = (Lst P n 80 (p + 2)).2.1 := by unfold Od; rw [if_neg cA, if_neg cB, if_pos cC, if_pos d]; exact ⟨rfl, rfl⟩
          rw [hO.1, hO.2]
          have h0 := nx_in2 d (by omega)
          obtain ⟨b, S', w1, w2, w3, w4, w5, w6⟩ := l_whole (P := P) (n := n) 80 0 T (p + 2) rfl (h.row t4 (t5 70 (by omega))) t1 (by omega) (by omega)
          refine ⟨b, S', ?_, w2, w3, w4, by rw [w5, t4], fun a ha => by rw [w6 a ha, t5 a ha]⟩
          rw [← w1]
          simp (disch := omega) only [eX2_readWholeOrder_0, eX2_readWholeOrder_1, eX2_readWholeOrder_4, eX2_readWholeOrder_7, eX2_readWholeOrder_8, eX2_readWholeOrder_9, eX2_readWholeOrder_10, eX2_readWholeOrder_13, eX2_readWholeOrder_15, eX2_readWholeOrder_17, eX2_readWholeOrder_20, eX2_readWholeOrder_23, eX2_readWholeOrder_24, eX2_readWholeOrder_25, eX2_readWholeOrder_26, eX2_readWholeOrder_28, eX2_readWholeOrder_30, eX2_readWholeOrder_33, eX2_readWholeOrder_34, eX2_readWholeOrder_37, eX2_readWholeOrder_40, eX2_readWholeOrder_41, eX2_readWholeOrder_42, eX2_readWholeOrder_43, eX2_readWholeOrder_45, eX2_readWholeOrder_48, eX2_readWholeOrder_51, eX2_readWholeOrder_52, eX2_readWholeOrder_53, eX2_readWholeOrder_56, eX2_readWholeOrder_59, eX2_readWholeOrder_60, if_pos, if_neg, if_true, if_false, Option.bind_some, Option.toList_some, Option.toList_none, List.cons_append, List.nil_append, e1, t3, e2]
          rfl
        · rw [if_neg d] at e1 t1
          have hO : Od P n p = (false, p + 1, 0, 0, []) := by unfold Od; rw [if_neg cA, if_neg cB, if_pos cC, if_neg d]
          rw [hO]
          refine ⟨0, T, ?_, t1, fun q => ft q, fun _ => Or.inl rfl, t4, t5⟩
          simp (disch := omega) only [eX2_readWholeOrder_0, eX2_readWholeOrder_1, eX2_readWholeOrder_4, eX2_readWholeOrder_7, eX2_readWholeOrder_8, eX2_readWholeOrder_9, eX2_readWholeOrder_10, eX2_readWholeOrder_13, eX2_readWholeOrder_15, eX2_readWholeOrder_17, eX2_readWholeOrder_20, eX2_readWholeOrder_23, eX2_readWholeOrder_24, eX2_readWholeOrder_25, eX2_readWholeOrder_26, eX2_readWholeOrder_28, eX2_readWholeOrder_30, eX2_readWholeOrder_33, eX2_readWholeOrder_34, eX2_readWholeOrder_37, eX2_readWholeOrder_40, eX2_readWholeOrder_41, eX2_readWholeOrder_42, eX2_readWholeOrder_43, eX2_readWholeOrder_45, eX2_readWholeOrder_48, eX2_readWholeOrder_51, eX2_readWholeOrder_52, eX2_readWholeOrder_53, eX2_readWholeOrder_56, eX2_readWholeOrder_59, eX2_readWholeOrder_60, if_pos, if_neg, if_true, if_false, Option.bind_some, Option.toList_some, Option.toList_none, List.cons_append, List.nil_append, e1]
      · obtain ⟨T, e1, t1, t2, t3, t4⟩ := s_readOrderD h hp (by omega) cA cB cC
        have hO : Od P n p = (false, p, 0, 0, []) := by unfold Od; rw [if_neg cA, if_neg cB, if_neg cC]
        rw [hO]
        refine ⟨0, T, ?_, t1, fun q => ft q, fun _ => Or.inl rfl, t3, t4⟩
        simp (disch := omega) only [eX2_readWholeOrder_0, eX2_readWholeOrder_1, eX2_readWholeOrder_4, eX2_readWholeOrder_7, eX2_readWholeOrder_8, eX2_readWholeOrder_9, eX2_readWholeOrder_10, eX2_readWholeOrder_13, eX2_readWholeOrder_15, eX2_readWholeOrder_17, eX2_readWholeOrder_20, eX2_readWholeOrder_23, eX2_readWholeOrder_24, eX2_readWholeOrder_25, eX2_readWholeOrder_26, eX2_readWholeOrder_28, eX2_readWholeOrder_30, eX2_readWholeOrder_33, eX2_readWholeOrder_34, eX2_readWholeOrder_37, eX2_readWholeOrder_40, eX2_readWholeOrder_41, eX2_readWholeOrder_42, eX2_readWholeOrder_43, eX2_readWholeOrder_45, eX2_readWholeOrder_48, eX2_readWholeOrder_51, eX2_readWholeOrder_52, eX2_readWholeOrder_53, eX2_readWholeOrder_56, eX2_readWholeOrder_59, eX2_readWholeOrder_60, if_pos, if_neg, if_true, if_false, Option.bind_some, Option.toList_some, Option.toList_none, List.cons_append, List.nil_append, e1]
theorem l_fault : ∀ (f i : Nat) (S : MM) (p : Nat), i + f = 80 → TX S P n → S 69 2 = (p : Int) → p ≤ n → n < p + 2 * f → ∃ S', rn xX2_firstFault (6, [some (vR 69), some (vI i)], [], S) = some (some (vI (if (Tx P n f p).1 = true then -6 else ((Tx P n f p).2.1 : Int))), S') ∧ S' 69 1 = S 69 1 ∧ (∀ a, a ≠ 69 → S' a = S a) := by
  intro f
  induction f with
  | zero => intro i S p _ _ _ h1 h2; omega
  | succ f ih =>
    intro i S p hi hT hp hpn hf
    have k0 := k69
    have hn8 := hT.2.1
    obtain ⟨b, T, e1, t1, t2, t3, t4, t5⟩ := s_readWhole hT hp hpn
    obtain ⟨g1, g2, g3⟩ := Od_b (P := P) hpn
    have hT1 : TX T P n := hT.row t4 (t5 70 (by omega))
    have hl := hT1.1
    have e2 := s_pass hT1 t1 (by omega) (c := 59) (by omega)
    rw [Tx, eX2_firstFault_6]
    by_cases c : (Od P n p).1 = true
    · rw [if_pos c]
      have hb := t2 c
      subst hb
      have g4 := g3 c
      by_cases l : (Od P n p).2.1 < n
      · rw [if_pos l]
        by_cases d : nx P n (Od P n p).2.1 = 59
        · rw [if_pos d] at e2 ⊢
          obtain ⟨S', w1, w2, w3⟩ := ih (i + 1) (updM T 69 2 (((Od P n p).2.1 + 1 : Nat) : Int)) ((Od P n p).2.1 + 1) (by omega) (hT1.up (by omega)) (by rw [updM_eq, up_eq]) (by omega) (by omega)
          refine ⟨S', ?_, by rw [w2, updM_eq, up_ne (by omega), t4], fun a ha => by rw [w3 a ha, updM_ne ha, t5 a ha]⟩
          rw [← w1]
          simp (disch := omega) only [eX2_firstFault_0, eX2_firstFault_1, eX2_firstFault_4, eX2_firstFault_5, eX2_firstFault_7, eX2_firstFault_9, eX2_firstFault_12, eX2_firstFault_13, eX2_firstFault_16, eX2_firstFault_19, eX2_firstFault_20, eX2_firstFault_23, eX2_firstFault_24, eX2_firstFault_25, eX2_firstFault_27, eX2_firstFault_30, eX2_firstFault_33, eX2_firstFault_36, eX2_firstFault_39, eX2_firstFault_42, eX2_firstFault_43, eX2_firstFault_46, eX2_firstFault_47, eX2_firstFault_50, eX2_firstFault_53, eX2_firstFault_54, eX2_firstFault_57, eX2_firstFault_60, eX2_firstFault_62, if_pos, if_neg, if_true, if_false, Option.bind_some, Option.toList_some, Option.toList_none, List.cons_append, List.nil_append, e1, e2]
          rw [show ((i : Int) + 1) = ((i + 1 : Nat) : Int) by omega]
        · rw [if_neg d] at e2 ⊢
          rw [if_neg (fun q => ft q)]
          refine ⟨T, ?_, t4, t5⟩
          simp (disch := omega) only [eX2_firstFault_0, eX2_firstFault_1, eX2_firstFault_4, eX2_firstFault_5, eX2_firstFault_7, eX2_firstFault_9, eX2_firstFault_12, eX2_firstFault_13, eX2_firstFault_16, eX2_firstFault_19, eX2_firstFault_20, eX2_firstFault_23, eX2_firstFault_24, eX2_firstFault_25, eX2_firstFault_27, eX2_firstFault_30, eX2_firstFault_33, eX2_firstFault_36, eX2_firstFault_39, eX2_firstFault_42, eX2_firstFault_43, eX2_firstFault_46, eX2_firstFault_47, eX2_firstFault_50, eX2_firstFault_53, eX2_firstFault_54, eX2_firstFault_57, eX2_firstFault_60, eX2_firstFault_62, if_pos, if_neg, if_true, if_false, Option.bind_some, Option.toList_some, Option.toList_none, List.cons_append, List.nil_append, e1, e2]
          rw [t1]
      · rw [if_neg l]
        have d : nx P n (Od P n p).2.1 = 0 := by unfold nx; rw [if_neg l]
        rw [if_neg (by omega)] at e2
        rw [if_pos rfl]
        refine ⟨T, ?_, t4, t5⟩
        simp (disch := omega) only [eX2_firstFault_0, eX2_firstFault_1, eX2_firstFault_4, eX2_firstFault_5, eX2_firstFault_7, eX2_firstFault_9, eX2_firstFault_12, eX2_firstFault_13, eX2_firstFault_16, eX2_firstFault_19, eX2_firstFault_20, eX2_firstFault_23, eX2_firstFault_24, eX2_firstFault_25, eX2_firstFault_27, eX2_firstFault_30, eX2_firstFault_33, eX2_firstFault_36, eX2_firstFault_39, eX2_firstFault_42, eX2_firstFault_43, eX2_firstFault_46, eX2_firstFault_47, eX2_firstFault_50, eX2_firstFault_53, eX2_firstFault_54, eX2_firstFault_57, eX2_firstFault_60, eX2_firstFault_62, if_pos, if_neg, if_true, if_false, Option.bind_some, Option.toList_some, Option.toList_none, List.cons_append, List.nil_append, e1, e2]
    · rw [if_neg c, if_neg (fun q => ft q)]
      have c' : (Od P n p).1 = false := by simpa using c
      refine ⟨T, ?_, t4, t5⟩
      rcases t3 c' with hb | ⟨hb, y1, y2⟩
      · subst hb
        simp (disch := omega) only [eX2_firstFault_0, eX2_firstFault_1, eX2_firstFault_4, eX2_firstFault_5, eX2_firstFault_7, eX2_firstFault_9, eX2_firstFault_12, eX2_firstFault_13, eX2_firstFault_16, eX2_firstFault_19, eX2_firstFault_20, eX2_firstFault_23, eX2_firstFault_24, eX2_firstFault_25, eX2_firstFault_27, eX2_firstFault_30, eX2_firstFault_33, eX2_firstFault_36, eX2_firstFault_39, eX2_firstFault_42, eX2_firstFault_43, eX2_firstFault_46, eX2_firstFault_47, eX2_firstFault_50, eX2_firstFault_53, eX2_firstFault_54, eX2_firstFault_57, eX2_firstFault_60, eX2_firstFault_62, if_pos, if_neg, if_true, if_false, Option.bind_some, Option.toList_some, Option.toList_none, List.cons_append, List.nil_append, e1]
        rw [t1]
      · subst hb
        rw [if_neg (by omega)] at e2
        have := nx_in (P := P) (n := n) (p := (Od P n p).2.1) (by omega)
        simp (disch := omega) only [eX2_firstFault_0, eX2_firstFault_1, eX2_firstFault_4, eX2_firstFault_5, eX2_firstFault_7, eX2_firstFault_9, eX2_firstFault_12, eX2_firstFault_13, eX2_firstFault_16, eX2_firstFault_19, eX2_firstFault_20, eX2_firstFault_23, eX2_firstFault_24, eX2_firstFault_25, eX2_firstFault_27, eX2_firstFault_30, eX2_firstFault_33, eX2_firstFault_36, eX2_firstFault_39, eX2_firstFault_42, eX2_firstFault_43, eX2_firstFault_46, eX2_firstFault_47, eX2_firstFault_50, eX2_firstFault_53, eX2_firstFault_54, eX2_firstFault_57, eX2_firstFault_60, eX2_firstFault_62, if_pos, if_neg, if_true, if_false, Option.bind_some, Option.toList_some, Option.toList_none, List.cons_append, List.nil_append, e1, e2]
        rw [t1]
theorem s_firstFault (h : TX S P n) : ∃ S', fX2_firstFault [vR 69] S = some (some (vI (if (Tx P n 80 0).1 = true then -6 else ((Tx P n 80 0).2.1 : Int))), S') ∧ S' 69 1 = S 69 1 ∧ (∀ a, a ≠ 69 → S' a = S a) := by
  have k0 := k69
  have hn8 := h.2.1
  obtain ⟨S', w1, w2, w3⟩ := l_fault (P := P) (n := n) 80 0 (updM S 69 2 0) 0 rfl (h.up (by omega)) (by rw [updM_eq, up_eq]; rfl) (by omega) (by omega)
  refine ⟨S', ?_, by rw [w2, updM_eq, up_ne (by omega)], fun a ha => by rw [w3 a ha, updM_ne ha]⟩
  have er : fX2_rewind [vR 69] S = some (none, updM S 69 2 0) := by
    rw [uX2_rewind]
    simp (disch := omega) only [eX2_rewind_0, eX2_rewind_1, eX2_rewind_2, eX2_rewind_5, if_pos, if_neg, if_true, if_false, Option.bind_some, Option.toList_some, Option.toList_none, List.cons_append, List.nil_append]
  rw [← w1, uX2_firstFault]
  simp (disch := omega) only [eX2_firstFault_0, eX2_firstFault_1, eX2_firstFault_4, eX2_firstFault_5, eX2_firstFault_7, eX2_firstFault_9, eX2_firstFault_12, eX2_firstFault_13, eX2_firstFault_16, eX2_firstFault_19, eX2_firstFault_20, eX2_firstFault_23, eX2_firstFault_24, eX2_firstFault_25, eX2_firstFault_27, eX2_firstFault_30, eX2_firstFault_33, eX2_firstFault_36, eX2_firstFault_39, eX2_firstFault_42, eX2_firstFault_43, eX2_firstFault_46, eX2_firstFault_47, eX2_firstFault_50, eX2_firstFault_53, eX2_firstFault_54, eX2_firstFault_57, eX2_firstFault_60, eX2_firstFault_62, if_pos, if_neg, if_true, if_false, Option.bind_some, Option.toList_some, Option.toList_none, List.cons_append, List.nil_append, er]
  rfl
end RD5
