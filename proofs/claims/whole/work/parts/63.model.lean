/-! the reference: an order, the fault of a text -/
section MO25
variable {S S' S1 S2 : MM} {P : Nat → Int} {n g p : Nat} {i : Int}
def pcs (i : Int) (o : Int × Int × List (Int × Int × Int)) : List (Int × Int × Int × Int × Int × Int) := if o.1 = 115 then stPc i o.2.1 o.2.2 else if o.1 = 102 then [(102, i, o.2.1, (o.2.2.headD (0, 0, 0)).1, (o.2.2.headD (0, 0, 0)).2.1, 0)] else [(o.1, i, 0, 0, 0, 0)]
def flat : Int → List (Int × Int × List (Int × Int × Int)) → List (Int × Int × Int × Int × Int × Int)
  | _, [] => []
  | i, o :: l => pcs i o ++ flat (i + 1) l
theorem PX.ord {L : List (Int × Int × Int × Int × Int × Int)} (h : PX S S1 g 0 L) (hi : S 593 14 = i) : PX S (updM S1 593 14 (i + 1)) g 1 L := by
  obtain ⟨a1, a2, a3, a4, a5, a6, a7⟩ := h
  refine ⟨a1, by rw [updM_eq, up_ne (by omega)]; exact a2, by rw [updM_eq, up_eq, hi], fun j hj => by rw [updM_ne (by omega)]; exact a4 j hj, fun j q hq => ?_, fun k y1 y2 => by rw [updM_eq, up_ne y1]; exact a6 k y1 y2, fun a y1 y2 => by rw [updM_ne y1]; exact a7 a y1 y2⟩
  have := a5 j q hq
  unfold At at this ⊢
  rw [updM_ne (by omega)]
  exact this
theorem z_takeOrder (h : RT S P n) (hp : p ≤ n) (hg : S 593 15 = (g : Int)) (hi : S 593 14 = i) (hgp : 2 * g ≤ p) : ∃ (S' : MM) (L : List (Int × Int × Int × Int × Int × Int)), fX9_takeOrder [vR 593] (PS S (p : Int) 0) = some (none, PS S' ((Od P n p).2.1 : Int) (okb (Od P n p).1)) ∧ PX S S' g 1 L ∧ ((Od P n p).1 = true → L = pcs i (Od P n p).2.2) := by
  obtain ⟨k9, -⟩ := k9_
  have n14 : (14 : Nat) ≠ 12 := by decide
  have n14b : (14 : Nat) ≠ 13 := by decide
  have hn := h.2.1
  have hb := rx_b h p
  have e0 := z_next (p := p) (b := 0) h (by omega)
  have c1 : ((p : Int) + 1) = ((p + 1 : Nat) : Int) := by omega
  unfold Od
  rw [uX9_takeOrder]
  by_cases a : nx P n p = 100 ∨ nx P n p = 103 ∨ nx P n p = 108
  · rw [if_pos a]
    have hpn := nx_in (P := P) (n := n) (p := p) (by omega)
    have e1 := z_enter (what := nx P n p) (w := 0) (a := 0) (b := 0) (t := 0) (q := ((p + 1 : Nat) : Int)) hg hi (by omega)
    have hX := enM_PX (q := (nx P n p, i, 0, 0, 0, 0)) hg
    have q14 : enM S g (nx P n p, i, 0, 0, 0, 0) 593 14 = i := by rw [hX.2.2.1, hi]; omega
    refine ⟨updM (enM S g (nx P n p, i, 0, 0, 0, 0)) 593 14 (i + 1), [(nx P n p, i, 0, 0, 0, 0)], ?_, hX.ord hi, fun _ => ?_⟩
    · rcases a with a | a | a
      · rw [a] at e0 e1 q14 ⊢
        simp (disch := omega) only [eX9_takeOrder_0, eX9_takeOrder_1, eX9_takeOrder_4, eX9_takeOrder_5, eX9_takeOrder_6, eX9_takeOrder_8, eX9_takeOrder_11, eX9_takeOrder_12, eX9_takeOrder_13, eX9_takeOrder_16, eX9_takeOrder_17, eX9_takeOrder_18, eX9_takeOrder_21, eX9_takeOrder_22, eX9_takeOrder_25, eX9_takeOrder_28, eX9_takeOrder_29, eX9_takeOrder_31, eX9_takeOrder_34, eX9_takeOrder_35, eX9_takeOrder_37, eX9_takeOrder_40, eX9_takeOrder_41, eX9_takeOrder_43, eX9_takeOrder_46, eX9_takeOrder_47, eX9_takeOrder_48, eX9_takeOrder_51, eX9_takeOrder_52, eX9_takeOrder_53, eX9_takeOrder_56, eX9_takeOrder_57, eX9_takeOrder_58, eX9_takeOrder_59, eX9_takeOrder_60, eX9_takeOrder_61, eX9_takeOrder_62, eX9_takeOrder_65, eX9_takeOrder_68, eX9_takeOrder_69, eX9_takeOrder_72, eX9_takeOrder_73, eX9_takeOrder_74, eX9_takeOrder_77, eX9_takeOrder_78, eX9_takeOrder_79, eX9_takeOrder_82, if_pos, if_neg, if_true, if_false, Option.bind_some, Option.toList_some, Option.toList_none, List.cons_append, List.nil_append, e0, ps12, pu12, c1, e1, ps14, q14, puk n14 n14b]
        rfl
      · rw [a] at e0 e1 q14 ⊢
        simp (disch := omega) only [eX9_takeOrder_0, eX9_takeOrder_1, eX9_takeOrder_4, eX9_takeOrder_5, eX9_takeOrder_6, eX9_takeOrder_8, eX9_takeOrder_11, eX9_takeOrder_12, eX9_takeOrder_13, eX9_takeOrder_16, eX9_takeOrder_17, eX9_takeOrder_18, eX9_takeOrder_21, eX9_takeOrder_22, eX9_takeOrder_25, eX9_takeOrder_28, eX9_takeOrder_29, eX9_takeOrder_31, eX9_takeOrder_34, eX9_takeOrder_35, eX9_takeOrder_37, eX9_takeOrder_40, eX9_takeOrder_41, eX9_takeOrder_43, eX9_takeOrder_46, eX9_takeOrder_47, eX9_takeOrder_48, eX9_takeOrder_51, eX9_takeOrder_52, eX9_takeOrder_53, eX9_takeOrder_56, eX9_takeOrder_57, eX9_takeOrder_58, eX9_takeOrder_59, eX9_takeOrder_60, eX9_takeOrder_61, eX9_takeOrder_62, eX9_takeOrder_65, eX9_takeOrder_68, eX9_takeOrder_69, eX9_takeOrder_72, eX9_takeOrder_73, eX9_takeOrder_74, eX9_takeOrder_77, eX9_takeOrder_78, eX9_takeOrder_79, eX9_takeOrder_82, if_pos, if_neg, if_true, if_false, Option.bind_some, Option.toList_some, Option.toList_none, List.cons_append, List.nil_append, e0, ps12, pu12, c1, e1, ps14, q14, puk n14 n14b]
        rfl
      · rw [a] at e0 e1 q14 ⊢
        simp (disch := omega) only [eX9_takeOrder_0, eX9_takeOrder_1, eX9_takeOrder_4, eX9_takeOrder_5, eX9_takeOrder_6, eX9_takeOrder_8, eX9_takeOrder_11, eX9_takeOrder_12, eX9_takeOrder_13, eX9_takeOrder_16, eX9_takeOrder_17, eX9_takeOrder_18, eX9_takeOrder_21, eX9_takeOrder_22, eX9_takeOrder_25, eX9_takeOrder_28, eX9_takeOrder_29, eX9_takeOrder_31, eX9_takeOrder_34, eX9_takeOrder_35, eX9_takeOrder_37, eX9_takeOrder_40, eX9_takeOrder_41, eX9_takeOrder_43, eX9_takeOrder_46, eX9_takeOrder_47, eX9_takeOrder_48, eX9_takeOrder_51, eX9_takeOrder_52, eX9_takeOrder_53, eX9_takeOrder_56, eX9_takeOrder_57, eX9_takeOrder_58, eX9_takeOrder_59, eX9_takeOrder_60, eX9_takeOrder_61, eX9_takeOrder_62, eX9_takeOrder_65, eX9_takeOrder_68, eX9_takeOrder_69, eX9_takeOrder_72, eX9_takeOrder_73, eX9_takeOrder_74, eX9_takeOrder_77, eX9_takeOrder_78, eX9_takeOrder_79, eX9_takeOrder_82, if_pos, if_neg, if_true, if_false, Option.bind_some, Option.toList_some, Option.toList_none, List.cons_append, List.nil_append, e0, ps12, pu12, c1, e1, ps14, q14, puk n14 n14b]
        rfl
    · unfold pcs
      simp only
      rw [if_neg (by omega), if_neg (by omega)]
  · rw [if_neg a]
    by_cases b : nx P n p = 102
    · rw [if_pos b]
      have hpn := nx_in2 b (by omega)
      obtain ⟨T, e1, hT⟩ := z_takeFlood (p := p + 1) h (by omega) hg hi (by omega)
      have q14 : T 593 14 = i := by rw [hT.2.2.1, hi]; omega
      refine ⟨updM T 593 14 (i + 1), _, ?_, hT.ord hi, fun y => ?_⟩
      · rw [b] at e0
        simp (disch := omega) only [eX9_takeOrder_0, eX9_takeOrder_1, eX9_takeOrder_4, eX9_takeOrder_5, eX9_takeOrder_6, eX9_takeOrder_8, eX9_takeOrder_11, eX9_takeOrder_12, eX9_takeOrder_13, eX9_takeOrder_16, eX9_takeOrder_17, eX9_takeOrder_18, eX9_takeOrder_21, eX9_takeOrder_22, eX9_takeOrder_25, eX9_takeOrder_28, eX9_takeOrder_29, eX9_takeOrder_31, eX9_takeOrder_34, eX9_takeOrder_35, eX9_takeOrder_37, eX9_takeOrder_40, eX9_takeOrder_41, eX9_takeOrder_43, eX9_takeOrder_46, eX9_takeOrder_47, eX9_takeOrder_48, eX9_takeOrder_51, eX9_takeOrder_52, eX9_takeOrder_53, eX9_takeOrder_56, eX9_takeOrder_57, eX9_takeOrder_58, eX9_takeOrder_59, eX9_takeOrder_60, eX9_takeOrder_61, eX9_takeOrder_62, eX9_takeOrder_65, eX9_takeOrder_68, eX9_takeOrder_69, eX9_takeOrder_72, eX9_takeOrder_73, eX9_takeOrder_74, eX9_takeOrder_77, eX9_takeOrder_78, eX9_takeOrder_79, eX9_takeOrder_82, if_pos, if_neg, if_true, if_false, Option.bind_some, Option.toList_some, Option.toList_none, List.cons_append, List.nil_append, e0, ps12, pu12, c1, e1, ps14, q14, puk n14 n14b]
      · have y : (Fl P n (p + 1)).1 = true := y
        rw [if_pos y]
        rfl
    · rw [if_neg b]
      obtain ⟨T, L, e1, hT, hL⟩ := z_takeLaying (p := p) h hp hg hi hgp
      have q14 : T 593 14 = i := by rw [hT.2.2.1, hi]; omega
      have ea : nx P n p ≠ 100 := fun y => a (Or.inl y)
      have eb : nx P n p ≠ 103 := fun y => a (Or.inr (Or.inl y))
      have ec : nx P n p ≠ 108 := fun y => a (Or.inr (Or.inr y))
      have e2 : rn xX9_takeOrder (0, [some (vR 593), none], [], PS S (p : Int) 0) = some (none, PS (updM T 593 14 (i + 1)) ((layO P n p).2.1 : Int) (okb (layO P n p).1)) := by
        generalize nx P n p = z at *
        simp (disch := omega) only [eX9_takeOrder_0, eX9_takeOrder_1, eX9_takeOrder_4, eX9_takeOrder_5, eX9_takeOrder_6, eX9_takeOrder_8, eX9_takeOrder_11, eX9_takeOrder_12, eX9_takeOrder_13, eX9_takeOrder_16, eX9_takeOrder_17, eX9_takeOrder_18, eX9_takeOrder_21, eX9_takeOrder_22, eX9_takeOrder_25, eX9_takeOrder_28, eX9_takeOrder_29, eX9_takeOrder_31, eX9_takeOrder_34, eX9_takeOrder_35, eX9_takeOrder_37, eX9_takeOrder_40, eX9_takeOrder_41, eX9_takeOrder_43, eX9_takeOrder_46, eX9_takeOrder_47, eX9_takeOrder_48, eX9_takeOrder_51, eX9_takeOrder_52, eX9_takeOrder_53, eX9_takeOrder_56, eX9_takeOrder_57, eX9_takeOrder_58, eX9_takeOrder_59, eX9_takeOrder_60, eX9_takeOrder_61, eX9_takeOrder_62, eX9_takeOrder_65, eX9_takeOrder_68, eX9_takeOrder_69, eX9_takeOrder_72, eX9_takeOrder_73, eX9_takeOrder_74, eX9_takeOrder_77, eX9_takeOrder_78, eX9_takeOrder_79, eX9_takeOrder_82, if_pos, if_neg, if_true, if_false, Option.bind_some, Option.toList_some, Option.toList_none, List.cons_append, List.nil_append, e0, e1, ps14, q14, puk n14 n14b]
      refine ⟨updM T 593 14 (i + 1), L, ?_, hT.ord hi, ?_⟩
      · rw [e2]
        unfold layO
        by_cases c : 48 ≤ nx P n p ∧ nx P n p ≤ 50
        · rw [if_pos c, if_pos c]
          by_cases d : nx P n (p + 1) = 58
          · rw [if_pos d, if_pos d]
          · rw [if_neg d, if_neg d]
        · rw [if_neg c, if_neg c]
      · unfold layO at hL
        by_cases c : 48 ≤ nx P n p ∧ nx P n p ≤ 50
        · rw [if_pos c] at hL ⊢
          by_cases d : nx P n (p + 1) = 58
          · rw [if_pos d] at hL ⊢
            intro y
            rw [hL y]
            rfl
          · rw [if_neg d]
            exact fun y => ft y
        · rw [if_neg c]
          exact fun y => ft y
theorem Lst_len : ∀ {f p : Nat}, p ≤ n → (Lst P n f p).1 = true → 2 * (Lst P n f p).2.2.length + p ≤ (Lst P n f p).2.1 + 1 := by
  intro f
  induction f with
  | zero => intro p hp y; exact ft y
  | succ f ih =>
    intro p hp
    obtain ⟨h1, h2, h3⟩ := St_b (P := P) hp
    rw [Lst]
    by_cases c : (St P n p).1 = true
    · rw [if_pos c]
      have h3 := (h3 c).1
      by_cases d : nx P n (St P n p).2.1 = 44
      · rw [if_pos d]
        have := nx_in2 d (by omega)
        intro y
        have ih := ih (p := (St P n p).2.1 + 1) (by omega) y
        simp only [List.length_cons]
        omega
      · rw [if_neg d]
        intro _
        simp only [List.length_cons, List.length_nil]
        omega
    · rw [if_neg c]
      exact fun y => ft y
theorem Od_len (hp : p ≤ n) (ho : (Od P n p).1 = true) : 2 * (pcs i (Od P n p).2.2).length + p ≤ (Od P n p).2.1 + 1 := by
  revert ho
  unfold Od
  by_cases a : nx P n p = 100 ∨ nx P n p = 103 ∨ nx P n p = 108
  · rw [if_pos a]
    intro _
    unfold pcs
    simp only
    rw [if_neg (by omega), if_neg (by omega)]
    simp only [List.length_cons, List.length_nil]
    omega
  · rw [if_neg a]
    by_cases b : nx P n p = 102
    · rw [if_pos b]
      have h0 := nx_in2 b (by omega)
      obtain ⟨g1, g2, g3⟩ := Fl_b (P := P) (n := n) (p := p + 1) (by omega)
      intro _
      show 2 * 1 + p ≤ (Fl P n (p + 1)).2.1 + 1
      omega
    · rw [if_neg b]
      by_cases c : 48 ≤ nx P n p ∧ nx P n p ≤ 50
      · rw [if_pos c]
        have h0 := nx_in (P := P) (n := n) (p := p) (by omega)
        by_cases d : nx P n (p + 1) = 58
        · rw [if_pos d]
          have h1 := nx_in2 d (by omega)
          intro y
          have hl := Lst_len (P := P) (n := n) (f := 80) (p := p + 2) (by omega) y
          show 2 * ((Lst P n 80 (p + 2)).2.2.map _).length + p ≤ (Lst P n 80 (p + 2)).2.1 + 1
          rw [List.length_map]
          omega
        · rw [if_neg d]
          exact fun y => ft y
      · rw [if_neg c]
        exact fun y => ft y
/-! the fault -/
def txR (P : Nat → Int) (n f q : Nat) : Bool × Nat × List (Int × Int × List (Int × Int × Int)) := if q < n then (if nx P n q = 59 then Tx P n f (q + 1) else (false, q, [])) else (true, q, [])
theorem l_fau : ∀ (f q g : Nat) (i : Int) (S : MM), RT S P n → q ≤ n → n < q + 1 + 2 * f → S 593 15 = (g : Int) → S 593 14 = i → 2 * g ≤ q + 1 → ∃ (S' : MM) (L : List (Int × Int × Int × Int × Int × Int)) (d : Int), rn xX9_fault (24, [some (vR 593)], [], PS S (q : Int) 0) = some (some (vI (if (txR P n f q).1 = true then -6 else ((txR P n f q).2.1 : Int))), PS S' ((txR P n f q).2.1 : Int) (okb (txR P n f q).1)) ∧ PX S S' g d L ∧ ((txR P n f q).1 = true → L = flat i (txR P n f q).2.2 ∧ d = ((txR P n f q).2.2.length : Int)) := by
  obtain ⟨k9, -⟩ := k9_
  intro f
  induction f with
  | zero =>
    intro q g i S h hq hf hg hi hgp
    have e11 := h.1
    have hn := h.2.1
    unfold txR
    rw [if_neg (show ¬ q < n by omega)]
    refine ⟨S, [], 0, ?_, PX.nil hg, fun _ => ⟨rfl, rfl⟩⟩
    rw [eX9_fault_24]
    simp (disch := omega) only [eX9_fault_0, eX9_fault_1, eX9_fault_2, eX9_fault_5, eX9_fault_6, eX9_fault_7, eX9_fault_10, eX9_fault_11, eX9_fault_12, eX9_fault_15, eX9_fault_16, eX9_fault_17, eX9_fault_20, eX9_fault_21, eX9_fault_25, eX9_fault_28, eX9_fault_31, eX9_fault_32, eX9_fault_35, eX9_fault_36, eX9_fault_39, eX9_fault_42, eX9_fault_43, eX9_fault_45, eX9_fault_48, eX9_fault_49, eX9_fault_52, eX9_fault_55, eX9_fault_56, eX9_fault_59, eX9_fault_62, eX9_fault_63, eX9_fault_66, eX9_fault_69, eX9_fault_70, eX9_fault_73, eX9_fault_76, eX9_fault_78, if_pos, if_neg, if_true, if_false, Option.bind_some, Option.toList_some, Option.toList_none, List.cons_append, List.nil_append, ps13, ps12, ps11, e11]
    rfl
  | succ f ih =>
    intro q g i S h hq hf hg hi hgp
    have e11 := h.1
    have hn := h.2.1
    have hb := rx_b h q
    unfold txR
    by_cases c : q < n
    · rw [if_pos c]
      by_cases d : nx P n q = 59
      · rw [if_pos d]
        have e1 := z_takeSignY h (show q ≤ 80 by omega) d
        obtain ⟨T, L, e2, hT, hL⟩ := z_takeOrder (p := q + 1) h (by omega) hg hi (by omega)
        obtain ⟨b1, b2, b3⟩ := Od_b (P := P) (n := n) (p := q + 1) (by omega)
        rw [Tx]
        by_cases o : (Od P n (q + 1)).1 = true
        · rw [if_pos o]
          have b3 := b3 o
          unfold okb at e2
          rw [if_pos o] at e2
          have hLo := hL o
          have hlen : 2 * L.length + (q + 1) ≤ (Od P n (q + 1)).2.1 + 1 := by
            rw [hLo]
            exact Od_len (by omega) o
          obtain ⟨S', L2, dd, w1, w2, w3⟩ := ih (Od P n (q + 1)).2.1 (g + L.length) (i + 1) T (h.px hT) b2 (by omega) hT.2.1 (by rw [hT.2.2.1, hi]) (by omega)
          have e : rn xX9_fault (24, [some (vR 593)], [], PS S (q : Int) 0) = rn xX9_fault (24, [some (vR 593)], [], PS T ((Od P n (q + 1)).2.1 : Int) 0) := by
            rw [eX9_fault_24]
            simp (disch := omega) only [eX9_fault_0, eX9_fault_1, eX9_fault_2, eX9_fault_5, eX9_fault_6, eX9_fault_7, eX9_fault_10, eX9_fault_11, eX9_fault_12, eX9_fault_15, eX9_fault_16, eX9_fault_17, eX9_fault_20, eX9_fault_21, eX9_fault_25, eX9_fault_28, eX9_fault_31, eX9_fault_32, eX9_fault_35, eX9_fault_36, eX9_fault_39, eX9_fault_42, eX9_fault_43, eX9_fault_45, eX9_fault_48, eX9_fault_49, eX9_fault_52, eX9_fault_55, eX9_fault_56, eX9_fault_59, eX9_fault_62, eX9_fault_63, eX9_fault_66, eX9_fault_69, eX9_fault_70, eX9_fault_73, eX9_fault_76, eX9_fault_78, if_pos, if_neg, if_true, if_false, Option.bind_some, Option.toList_some, Option.toList_none, List.cons_append, List.nil_append, ps13, ps12, ps11, e11, e1, e2]
          rw [e, w1]
          unfold txR at *
          by_cases c2 : (Od P n (q + 1)).2.1 < n
          · rw [if_pos c2] at w3 ⊢
            simp only [if_pos c2]
            by_cases d2 : nx P n (Od P n (q + 1)).2.1 = 59
            · rw [if_pos d2] at w3 ⊢
              simp only [if_pos d2]
              refine ⟨S', L ++ L2, 1 + dd, rfl, hT.trans w2, fun y => ?_⟩
              obtain ⟨v1, v2⟩ := w3 y
              rw [hLo, v1, v2]
              refine ⟨rfl, ?_⟩
              simp only [List.length_cons]
              omega
            · rw [if_neg d2]
              simp only [if_neg d2]
              exact ⟨S', L ++ L2, 1 + dd, rfl, hT.trans w2, fun y => ft y⟩
          · rw [if_neg c2] at w3 ⊢
            simp only [if_neg c2]
            refine ⟨S', L ++ L2, 1 + dd, rfl, hT.trans w2, fun y => ?_⟩
            obtain ⟨v1, v2⟩ := w3 rfl
            rw [hLo, v1, v2]
            exact ⟨rfl, rfl⟩
        · rw [if_neg o]
          unfold okb at e2
          rw [if_neg o] at e2
          refine ⟨T, L, 1, ?_, hT, fun y => ft y⟩
          rw [eX9_fault_24]
          simp (disch := omega) only [eX9_fault_0, eX9_fault_1, eX9_fault_2, eX9_fault_5, eX9_fault_6, eX9_fault_7, eX9_fault_10, eX9_fault_11, eX9_fault_12, eX9_fault_15, eX9_fault_16, eX9_fault_17, eX9_fault_20, eX9_fault_21, eX9_fault_25, eX9_fault_28, eX9_fault_31, eX9_fault_32, eX9_fault_35, eX9_fault_36, eX9_fault_39, eX9_fault_42, eX9_fault_43, eX9_fault_45, eX9_fault_48, eX9_fault_49, eX9_fault_52, eX9_fault_55, eX9_fault_56, eX9_fault_59, eX9_fault_62, eX9_fault_63, eX9_fault_66, eX9_fault_69, eX9_fault_70, eX9_fault_73, eX9_fault_76, eX9_fault_78, if_pos, if_neg, if_true, if_false, Option.bind_some, Option.toList_some, Option.toList_none, List.cons_append, List.nil_append, ps13, ps12, ps11, e11, e1, e2]
          rw [eX9_fault_24]
          simp (disch := omega) only [eX9_fault_0, eX9_fault_1, eX9_fault_2, eX9_fault_5, eX9_fault_6, eX9_fault_7, eX9_fault_10, eX9_fault_11, eX9_fault_12, eX9_fault_15, eX9_fault_16, eX9_fault_17, eX9_fault_20, eX9_fault_21, eX9_fault_25, eX9_fault_28, eX9_fault_31, eX9_fault_32, eX9_fault_35, eX9_fault_36, eX9_fault_39, eX9_fault_42, eX9_fault_43, eX9_fault_45, eX9_fault_48, eX9_fault_49, eX9_fault_52, eX9_fault_55, eX9_fault_56, eX9_fault_59, eX9_fault_62, eX9_fault_63, eX9_fault_66, eX9_fault_69, eX9_fault_70, eX9_fault_73, eX9_fault_76, eX9_fault_78, if_pos, if_neg, if_true, if_false, Option.bind_some, Option.toList_some, Option.toList_none, List.cons_append, List.nil_append, ps13, ps12]
          rfl
      · rw [if_neg d]
        have e1 := z_takeSignN (c := 59) h (show q ≤ 80 by omega) ⟨by omega, by omega⟩ d
        refine ⟨S, [], 0, ?_, PX.nil hg, fun y => ft y⟩
        rw [eX9_fault_24]
        simp (disch := omega) only [eX9_fault_0, eX9_fault_1, eX9_fault_2, eX9_fault_5, eX9_fault_6, eX9_fault_7, eX9_fault_10, eX9_fault_11, eX9_fault_12, eX9_fault_15, eX9_fault_16, eX9_fault_17, eX9_fault_20, eX9_fault_21, eX9_fault_25, eX9_fault_28, eX9_fault_31, eX9_fault_32, eX9_fault_35, eX9_fault_36, eX9_fault_39, eX9_fault_42, eX9_fault_43, eX9_fault_45, eX9_fault_48, eX9_fault_49, eX9_fault_52, eX9_fault_55, eX9_fault_56, eX9_fault_59, eX9_fault_62, eX9_fault_63, eX9_fault_66, eX9_fault_69, eX9_fault_70, eX9_fault_73, eX9_fault_76, eX9_fault_78, if_pos, if_neg, if_true, if_false, Option.bind_some, Option.toList_some, Option.toList_none, List.cons_append, List.nil_append, ps13, ps12, ps11, e11, e1]
        rw [eX9_fault_24]
        simp (disch := omega) only [eX9_fault_0, eX9_fault_1, eX9_fault_2, eX9_fault_5, eX9_fault_6, eX9_fault_7, eX9_fault_10, eX9_fault_11, eX9_fault_12, eX9_fault_15, eX9_fault_16, eX9_fault_17, eX9_fault_20, eX9_fault_21, eX9_fault_25, eX9_fault_28, eX9_fault_31, eX9_fault_32, eX9_fault_35, eX9_fault_36, eX9_fault_39, eX9_fault_42, eX9_fault_43, eX9_fault_45, eX9_fault_48, eX9_fault_49, eX9_fault_52, eX9_fault_55, eX9_fault_56, eX9_fault_59, eX9_fault_62, eX9_fault_63, eX9_fault_66, eX9_fault_69, eX9_fault_70, eX9_fault_73, eX9_fault_76, eX9_fault_78, if_pos, if_neg, if_true, if_false, Option.bind_some, Option.toList_some, Option.toList_none, List.cons_append, List.nil_append, ps13, ps12]
        rfl
    · rw [if_neg c]
      refine ⟨S, [], 0, ?_, PX.nil hg, fun _ => ⟨rfl, rfl⟩⟩
      rw [eX9_fault_24]
      simp (disch := omega) only [eX9_fault_0, eX9_fault_1, eX9_fault_2, eX9_fault_5, eX9_fault_6, eX9_fault_7, eX9_fault_10, eX9_fault_11, eX9_fault_12, eX9_fault_15, eX9_fault_16, eX9_fault_17, eX9_fault_20, eX9_fault_21, eX9_fault_25, eX9_fault_28, eX9_fault_31, eX9_fault_32, eX9_fault_35, eX9_fault_36, eX9_fault_39, eX9_fault_42, eX9_fault_43, eX9_fault_45, eX9_fault_48, eX9_fault_49, eX9_fault_52, eX9_fault_55, eX9_fault_56, eX9_fault_59, eX9_fault_62, eX9_fault_63, eX9_fault_66, eX9_fault_69, eX9_fault_70, eX9_fault_73, eX9_fault_76, eX9_fault_78, if_pos, if_neg, if_true, if_false, Option.bind_some, Option.toList_some, Option.toList_none, List.cons_append, List.nil_append, ps13, ps12, ps11, e11]
      rfl
theorem ps_in {T : MM} : updM (updM (updM (updM T 593 12 0) 593 13 0) 593 14 0) 593 15 0 = PS (updM (updM T 593 14 0) 593 15 0) 0 0 := by
  funext a k
  unfold updM PS
  by_cases c : a = 593
  · by_cases d12 : k = 12
    · simp [c, d12]
    · by_cases d13 : k = 13
      · simp [c, d13]
      · simp [c, d12, d13]
  · simp [c]
theorem z_fault {A : Nat → Int} {m : Nat} {H : Nat → Nat → Int} {K : Nat → Int} {V : Nat → Nat → Int} (h : MIs S A m H K V P n) : ∃ S', fX9_fault [vR 593] S = some (some (vI (fltF P n)), S') ∧ MIs S' A m H K V P n ∧ FR S S' ∧ ((Tx P n 80 0).1 = true → S' 593 14 = ((Tx P n 80 0).2.2.length : Int) ∧ S' 593 15 = ((flat 0 (Tx P n 80 0).2.2).length : Int) ∧ ∀ j q, (flat 0 (Tx P n 80 0).2.2)[j]? = some q → At S' j q) := by
  obtain ⟨k9, -⟩ := k9_
  have hS : S 593 11 = (n : Int) := h.2.2.2.1
  have hn : n ≤ 80 := h.2.2.2.2.1
  obtain ⟨S0, hS0⟩ : ∃ T, updM (updM S 593 14 0) 593 15 0 = T := ⟨_, rfl⟩
  have f0 : ∀ k, k ≠ 14 → k ≠ 15 → S0 593 k = S 593 k := fun k y1 y2 => by rw [← hS0, updM_eq, up_ne y2, updM_eq, up_ne y1]
  have f1 : ∀ a, a ≠ 593 → S0 a = S a := fun a ha => by rw [← hS0, updM_ne ha, updM_ne ha]
  have hRT : RT S0 P n := ⟨by rw [f0 11 (by omega) (by omega)]; exact hS, hn, fun k hk => by rw [f1 600 (by omega)]; exact h.2.2.2.2.2 k hk⟩
  have g0 : S0 593 15 = ((0 : Nat) : Int) := by rw [← hS0, updM_eq, up_eq]; rfl
  have i0 : S0 593 14 = 0 := by rw [← hS0, updM_eq, up_ne (by omega), updM_eq, up_eq]
  have ps0 : updM (updM (updM (updM S 593 12 0) 593 13 0) 593 14 0) 593 15 0 = PS S0 ((0 : Nat) : Int) 0 := by rw [ps_in, hS0]; rfl
  obtain ⟨T, L, e2, hT, hL⟩ := z_takeOrder (p := 0) hRT (by omega) g0 i0 (by omega)
  obtain ⟨b1, b2, b3⟩ := Od_b (P := P) (n := n) (p := 0) (by omega)
  have key : ∃ (S' : MM) (L : List (Int × Int × Int × Int × Int × Int)) (d : Int), fX9_fault [vR 593] S = some (some (vI (fltF P n)), PS S' ((Tx P n 80 0).2.1 : Int) (okb (Tx P n 80 0).1)) ∧ PX S0 S' 0 d L ∧ ((Tx P n 80 0).1 = true → L = flat 0 (Tx P n 80 0).2.2 ∧ d = ((Tx P n 80 0).2.2.length : Int)) := by
    rw [uX9_fault]
    unfold fltF
    rw [Tx]
    by_cases o : (Od P n 0).1 = true
    · rw [if_pos o]
      have b3 := b3 o
      unfold okb at e2
      rw [if_pos o] at e2
      have hLo := hL o
      have hlen : 2 * L.length + 0 ≤ (Od P n 0).2.1 + 1 := by
        rw [hLo]
        exact Od_len (by omega) o
      obtain ⟨S', L2, dd, w1, w2, w3⟩ := l_fau 79 (Od P n 0).2.1 (0 + L.length) 1 T (hRT.px hT) b2 (by omega) hT.2.1 (by rw [hT.2.2.1, i0]; rfl) (by omega)
      have e : rn xX9_fault (0, [some (vR 593)], [], S) = rn xX9_fault (24, [some (vR 593)], [], PS T ((Od P n 0).2.1 : Int) 0) := by
        simp (disch := omega) only [eX9_fault_0, eX9_fault_1, eX9_fault_2, eX9_fault_5, eX9_fault_6, eX9_fault_7, eX9_fault_10, eX9_fault_11, eX9_fault_12, eX9_fault_15, eX9_fault_16, eX9_fault_17, eX9_fault_20, eX9_fault_21, eX9_fault_25, eX9_fault_28, eX9_fault_31, eX9_fault_32, eX9_fault_35, eX9_fault_36, eX9_fault_39, eX9_fault_42, eX9_fault_43, eX9_fault_45, eX9_fault_48, eX9_fault_49, eX9_fault_52, eX9_fault_55, eX9_fault_56, eX9_fault_59, eX9_fault_62, eX9_fault_63, eX9_fault_66, eX9_fault_69, eX9_fault_70, eX9_fault_73, eX9_fault_76, eX9_fault_78, if_pos, if_neg, if_true, if_false, Option.bind_some, Option.toList_some, Option.toList_none, List.cons_append, List.nil_append, ps0, e2]
      rw [e, w1]
      unfold txR at *
      by_cases c2 : (Od P n 0).2.1 < n
      · rw [if_pos c2] at w3 ⊢
        simp only [if_pos c2]
        by_cases d2 : nx P n (Od P n 0).2.1 = 59
        · rw [if_pos d2] at w3 ⊢
          simp only [if_pos d2]
          refine ⟨S', L ++ L2, 1 + dd, rfl, hT.trans w2, fun y => ?_⟩
          obtain ⟨v1, v2⟩ := w3 y
          rw [hLo, v1, v2]
          refine ⟨rfl, ?_⟩
          simp only [List.length_cons]
          omega
        · rw [if_neg d2]
          simp only [if_neg d2]
          exact ⟨S', L ++ L2, 1 + dd, rfl, hT.trans w2, fun y => ft y⟩
      · rw [if_neg c2] at w3 ⊢
        simp only [if_neg c2]
        refine ⟨S', L ++ L2, 1 + dd, rfl, hT.trans w2, fun y => ?_⟩
        obtain ⟨v1, v2⟩ := w3 rfl
        rw [hLo, v1, v2]
        exact ⟨rfl, rfl⟩
    · rw [if_neg o]
      unfold okb at e2
      rw [if_neg o] at e2
      refine ⟨T, L, 1, ?_, hT, fun y => ft y⟩
      simp (disch := omega) only [eX9_fault_0, eX9_fault_1, eX9_fault_2, eX9_fault_5, eX9_fault_6, eX9_fault_7, eX9_fault_10, eX9_fault_11, eX9_fault_12, eX9_fault_15, eX9_fault_16, eX9_fault_17, eX9_fault_20, eX9_fault_21, eX9_fault_25, eX9_fault_28, eX9_fault_31, eX9_fault_32, eX9_fault_35, eX9_fault_36, eX9_fault_39, eX9_fault_42, eX9_fault_43, eX9_fault_45, eX9_fault_48, eX9_fault_49, eX9_fault_52, eX9_fault_55, eX9_fault_56, eX9_fault_59, eX9_fault_62, eX9_fault_63, eX9_fault_66, eX9_fault_69, eX9_fault_70, eX9_fault_73, eX9_fault_76, eX9_fault_78, if_pos, if_neg, if_true, if_false, Option.bind_some, Option.toList_some, Option.toList_none, List.cons_append, List.nil_append, ps0, e2]
      rw [eX9_fault_24]
      simp (disch := omega) only [eX9_fault_0, eX9_fault_1, eX9_fault_2, eX9_fault_5, eX9_fault_6, eX9_fault_7, eX9_fault_10, eX9_fault_11, eX9_fault_12, eX9_fault_15, eX9_fault_16, eX9_fault_17, eX9_fault_20, eX9_fault_21, eX9_fault_25, eX9_fault_28, eX9_fault_31, eX9_fault_32, eX9_fault_35, eX9_fault_36, eX9_fault_39, eX9_fault_42, eX9_fault_43, eX9_fault_45, eX9_fault_48, eX9_fault_49, eX9_fault_52, eX9_fault_55, eX9_fault_56, eX9_fault_59, eX9_fault_62, eX9_fault_63, eX9_fault_66, eX9_fault_69, eX9_fault_70, eX9_fault_73, eX9_fault_76, eX9_fault_78, if_pos, if_neg, if_true, if_false, Option.bind_some, Option.toList_some, Option.toList_none, List.cons_append, List.nil_append, ps13, ps12]
      rfl
  obtain ⟨S', L', d, w1, w2, w3⟩ := key
  obtain ⟨a1, a2, a3, a4, a5, a6, a7⟩ := w2
  refine ⟨_, w1, ?_, ?_, fun y => ?_⟩
  · have fa : ∀ a, a ≠ 593 → a ≠ 601 → S' a = S a := fun a y1 y2 => by rw [a7 a y1 y2, f1 a y1]
    have fk : ∀ k, k ≠ 12 → k ≠ 13 → k ≠ 14 → k ≠ 15 → PS S' ((Tx P n 80 0).2.1 : Int) (okb (Tx P n 80 0).1) 593 k = S 593 k := fun k y1 y2 y3 y4 => by rw [psk y1 y2, a6 k y3 y4, f0 k y3 y4]
    exact h.to (by rw [psa (by omega), fa _ (by omega) (by omega)]; exact h.1) (fk _ (by omega) (by omega) (by omega) (by omega)) (fk _ (by omega) (by omega) (by omega) (by omega)) (fk _ (by omega) (by omega) (by omega) (by omega)) (by rw [psa (by omega), fa _ (by omega) (by omega)]) (by rw [psa (by omega), fa _ (by omega) (by omega)]) (by rw [psa (by omega), fa _ (by omega) (by omega)]) (by rw [psa (by omega), fa _ (by omega) (by omega)])
  · exact FR.of (fun a y3 _ _ _ _ _ _ _ y1 => by rw [psa y3, a7 a y3 y1, f1 a y3])
  · obtain ⟨v1, v2⟩ := w3 y
    refine ⟨by rw [ps14, a3, i0, v2]; omega, by rw [ps15, a2, v1, Nat.zero_add], fun j q hq => ?_⟩
    have := a5 j q (by rw [v1]; exact hq)
    rw [Nat.zero_add] at this
    unfold At at this ⊢
    rw [psa (by omega)]
    exact this
end MO25
