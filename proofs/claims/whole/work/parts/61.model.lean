/-! the reference: pieces of a text -/
section MO23
variable {S S' S1 S2 : MM} {P : Nat → Int} {n g p : Nat} {i : Int}
def At (T : MM) (j : Nat) (q : Int × Int × Int × Int × Int × Int) : Prop := T 601 (6 * j) = q.1 ∧ T 601 (6 * j + 1) = q.2.1 ∧ T 601 (6 * j + 2) = q.2.2.1 ∧ T 601 (6 * j + 3) = q.2.2.2.1 ∧ T 601 (6 * j + 4) = q.2.2.2.2.1 ∧ T 601 (6 * j + 5) = q.2.2.2.2.2
/-- pieces are entered behind g others; d orders end -/
def PX (S S' : MM) (g : Nat) (d : Int) (L : List (Int × Int × Int × Int × Int × Int)) : Prop := S 593 15 = (g : Int) ∧ S' 593 15 = ((g + L.length : Nat) : Int) ∧ S' 593 14 = S 593 14 + d ∧ (∀ j, j < 6 * g → S' 601 j = S 601 j) ∧ (∀ j q, L[j]? = some q → At S' (g + j) q) ∧ (∀ k, k ≠ 14 → k ≠ 15 → S' 593 k = S 593 k) ∧ (∀ a, a ≠ 593 → a ≠ 601 → S' a = S a)
theorem PX.nil (h : S 593 15 = (g : Int)) : PX S S g 0 [] := ⟨h, h, by omega, fun _ _ => rfl, fun j q hq => by simp at hq, fun _ _ _ => rfl, fun _ _ _ => rfl⟩
theorem PX.trans {d1 d2 : Int} {L1 L2 : List (Int × Int × Int × Int × Int × Int)} (h : PX S S1 g d1 L1) (k : PX S1 S2 (g + L1.length) d2 L2) : PX S S2 g (d1 + d2) (L1 ++ L2) := by
  obtain ⟨a1, a2, a3, a4, a5, a6, a7⟩ := h
  obtain ⟨b1, b2, b3, b4, b5, b6, b7⟩ := k
  refine ⟨a1, by rw [b2, List.length_append, Nat.add_assoc], by rw [b3, a3]; omega, fun j hj => by rw [b4 j (by omega), a4 j hj], fun j q hq => ?_, fun k y1 y2 => by rw [b6 k y1 y2, a6 k y1 y2], fun a y1 y2 => by rw [b7 a y1 y2, a7 a y1 y2]⟩
  by_cases c : j < L1.length
  · rw [List.getElem?_append_left c] at hq
    obtain ⟨c1, c2, c3, c4, c5, c6⟩ := a5 j q hq
    unfold At
    rw [b4 _ (by omega), b4 _ (by omega), b4 _ (by omega), b4 _ (by omega), b4 _ (by omega), b4 _ (by omega)]
    exact ⟨c1, c2, c3, c4, c5, c6⟩
  · rw [List.getElem?_append_right (by omega)] at hq
    have := b5 _ q hq
    rw [show g + L1.length + (j - L1.length) = g + j by omega] at this
    exact this
theorem RT.px {d : Int} {L : List (Int × Int × Int × Int × Int × Int)} (h : RT S P n) (k : PX S S' g d L) : RT S' P n := by
  obtain ⟨a1, a2, a3⟩ := h
  obtain ⟨b1, b2, b3, b4, b5, b6, b7⟩ := k
  exact ⟨by rw [b6 11 (by omega) (by omega)]; exact a1, a2, fun k hk => by rw [b7 600 (by omega) (by omega)]; exact a3 k hk⟩
def enM (S : MM) (g : Nat) (q : Int × Int × Int × Int × Int × Int) : MM := updM (updM (updM (updM (updM (updM (updM S 601 (6 * g) q.1) 601 (6 * g + 1) q.2.1) 601 (6 * g + 2) q.2.2.1) 601 (6 * g + 3) q.2.2.2.1) 601 (6 * g + 4) q.2.2.2.2.1) 601 (6 * g + 5) q.2.2.2.2.2) 593 15 ((g : Int) + 1)
theorem enM_PX {q : Int × Int × Int × Int × Int × Int} (h : S 593 15 = (g : Int)) : PX S (enM S g q) g 0 [q] := by
  have e1 : ∀ k, enM S g q 601 k = up (up (up (up (up (up (S 601) (6 * g) q.1) (6 * g + 1) q.2.1) (6 * g + 2) q.2.2.1) (6 * g + 3) q.2.2.2.1) (6 * g + 4) q.2.2.2.2.1) (6 * g + 5) q.2.2.2.2.2 k := fun k => by
    unfold enM
    rw [updM_ne (by omega), updM_eq, updM_eq, updM_eq, updM_eq, updM_eq, updM_eq]
  have e2 : enM S g q 593 = up (S 593) 15 ((g : Int) + 1) := by
    unfold enM
    rw [updM_eq, updM_ne (by omega), updM_ne (by omega), updM_ne (by omega), updM_ne (by omega), updM_ne (by omega), updM_ne (by omega)]
  refine ⟨h, by rw [e2, up_eq]; rfl, by rw [e2, up_ne (by omega)]; omega, fun j hj => ?_, fun j r hr => ?_, fun k y1 y2 => by rw [e2, up_ne y2], fun a y1 y2 => ?_⟩
  · rw [e1, up_ne (by omega), up_ne (by omega), up_ne (by omega), up_ne (by omega), up_ne (by omega), up_ne (by omega)]
  · have hj : j = 0 := by
      by_cases c : j = 0
      · exact c
      · rw [List.getElem?_eq_none (by simp; omega)] at hr
        cases hr
    subst hj
    have hq : q = r := by simpa using hr
    subst hq
    unfold At
    rw [Nat.add_zero, e1, e1, e1, e1, e1, e1]
    refine ⟨?_, ?_, ?_, ?_, ?_, ?_⟩
    · rw [up_ne (by omega), up_ne (by omega), up_ne (by omega), up_ne (by omega), up_ne (by omega), up_eq]
    · rw [up_ne (by omega), up_ne (by omega), up_ne (by omega), up_ne (by omega), up_eq]
    · rw [up_ne (by omega), up_ne (by omega), up_ne (by omega), up_eq]
    · rw [up_ne (by omega), up_ne (by omega), up_eq]
    · rw [up_ne (by omega), up_eq]
    · rw [up_eq]
  · unfold enM
    rw [updM_ne y1, updM_ne y2, updM_ne y2, updM_ne y2, updM_ne y2, updM_ne y2, updM_ne y2]
theorem u601 {T : MM} {k : Nat} {z : Int} : updM T 601 k z 593 = T 593 := updM_ne (by omega)
theorem z_enter {what w a b t q : Int} (hg : S 593 15 = (g : Int)) (hi : S 593 14 = i) (hg4 : g ≤ 41) : fX9_enter [vR 593, vI what, vI w, vI a, vI b, vI t] (PS S q 0) = some (none, PS (enM S g (what, i, w, a, b, t)) q 0) := by
  obtain ⟨k9, k6, a6, k1, a1⟩ := k9_
  have x0 : ((6 : Int) * (g : Int)).toNat = 6 * g := by omega
  have x1 : ((6 : Int) * (g : Int) + 1).toNat = 6 * g + 1 := by omega
  have x2 : ((6 : Int) * (g : Int) + 2).toNat = 6 * g + 2 := by omega
  have x3 : ((6 : Int) * (g : Int) + 3).toNat = 6 * g + 3 := by omega
  have x4 : ((6 : Int) * (g : Int) + 4).toNat = 6 * g + 4 := by omega
  have x5 : ((6 : Int) * (g : Int) + 5).toNat = 6 * g + 5 := by omega
  have n15 : (15 : Nat) ≠ 12 := by decide
  have n15b : (15 : Nat) ≠ 13 := by decide
  rw [uX9_enter]
  simp (disch := omega) only [eX9_enter_0, eX9_enter_1, eX9_enter_4, eX9_enter_7, eX9_enter_9, eX9_enter_10, eX9_enter_13, eX9_enter_14, eX9_enter_16, eX9_enter_17, eX9_enter_20, eX9_enter_22, eX9_enter_23, eX9_enter_24, eX9_enter_25, eX9_enter_28, eX9_enter_30, eX9_enter_31, eX9_enter_32, eX9_enter_33, eX9_enter_36, eX9_enter_37, eX9_enter_38, eX9_enter_41, eX9_enter_43, eX9_enter_44, eX9_enter_45, eX9_enter_46, eX9_enter_47, eX9_enter_48, eX9_enter_51, eX9_enter_53, eX9_enter_54, eX9_enter_55, eX9_enter_56, eX9_enter_57, eX9_enter_58, eX9_enter_61, eX9_enter_63, eX9_enter_64, eX9_enter_65, eX9_enter_67, eX9_enter_68, eX9_enter_69, eX9_enter_72, eX9_enter_74, eX9_enter_75, eX9_enter_76, eX9_enter_78, eX9_enter_79, eX9_enter_80, eX9_enter_81, eX9_enter_84, eX9_enter_85, eX9_enter_86, eX9_enter_89, if_pos, if_neg, if_true, if_false, Option.bind_some, Option.toList_some, Option.toList_none, List.cons_append, List.nil_append, ps13, ps15, ps14, hg, hi, x0, x1, x2, x3, x4, x5, pu601, u601, puk n15 n15b]
  rfl
theorem z_enter1 {what w a b t q : Int} : fX9_enter [vR 593, vI what, vI w, vI a, vI b, vI t] (PS S q 1) = some (none, PS S q 1) := by
  obtain ⟨k9, -⟩ := k9_
  rw [uX9_enter]
  simp (disch := omega) only [eX9_enter_0, eX9_enter_1, eX9_enter_4, eX9_enter_7, eX9_enter_9, eX9_enter_10, eX9_enter_13, eX9_enter_14, eX9_enter_16, eX9_enter_17, eX9_enter_20, eX9_enter_22, eX9_enter_23, eX9_enter_24, eX9_enter_25, eX9_enter_28, eX9_enter_30, eX9_enter_31, eX9_enter_32, eX9_enter_33, eX9_enter_36, eX9_enter_37, eX9_enter_38, eX9_enter_41, eX9_enter_43, eX9_enter_44, eX9_enter_45, eX9_enter_46, eX9_enter_47, eX9_enter_48, eX9_enter_51, eX9_enter_53, eX9_enter_54, eX9_enter_55, eX9_enter_56, eX9_enter_57, eX9_enter_58, eX9_enter_61, eX9_enter_63, eX9_enter_64, eX9_enter_65, eX9_enter_67, eX9_enter_68, eX9_enter_69, eX9_enter_72, eX9_enter_74, eX9_enter_75, eX9_enter_76, eX9_enter_78, eX9_enter_79, eX9_enter_80, eX9_enter_81, eX9_enter_84, eX9_enter_85, eX9_enter_86, eX9_enter_89, if_pos, if_neg, if_true, if_false, Option.bind_some, Option.toList_some, Option.toList_none, List.cons_append, List.nil_append, ps13]
/-! a stretch of stones -/
def okb (b : Bool) : Int := if b = true then 0 else 1
theorem l_stR {w a b : Int} (h : RT S P n) (hp : p ≤ n) (hg : S 593 15 = (g : Int)) (hi : S 593 14 = i) (hgp : 2 * g ≤ p) : ∃ S', rn xX9_takeStones (23, [some (vR 593), some (vI w), some (vI a), some (vI b), none], [], PS S (p : Int) 0) = some (none, PS S' ((stR P n a b p).2.1 : Int) (okb (stR P n a b p).1)) ∧ PX S S' g 0 (if (stR P n a b p).1 = true then [(115, i, w, (stR P n a b p).2.2.1, (stR P n a b p).2.2.2.1, (stR P n a b p).2.2.2.2)] else []) := by
  obtain ⟨k9, -⟩ := k9_
  have hn := h.2.1
  have hb := rx_b h p
  unfold stR
  by_cases c : nx P n p = 42
  · rw [if_pos c]
    have hpn := nx_in2 c (by omega)
    have e1 := z_takesIfY h (show p ≤ 80 by omega) c
    by_cases d : 49 ≤ nx P n (p + 1) ∧ nx P n (p + 1) ≤ 57
    · rw [if_pos d]
      have hpn2 := nx_in (P := P) (n := n) (p := p + 1) (by omega)
      have e2 := z_takeDigitY (c := 49) (d := 57) h (show p + 1 ≤ 80 by omega) (by omega) (by omega) d
      have e3 := z_enter (what := 115) (w := w) (a := a) (b := b) (t := nx P n (p + 1) - 48) (q := ((p + 1 + 1 : Nat) : Int)) hg hi (by omega)
      refine ⟨enM S g (115, i, w, a, b, nx P n (p + 1) - 48), ?_, enM_PX hg⟩
      simp (disch := omega) only [eX9_takeStones_0, eX9_takeStones_1, eX9_takeStones_4, eX9_takeStones_5, eX9_takeStones_6, eX9_takeStones_8, eX9_takeStones_11, eX9_takeStones_14, eX9_takeStones_15, eX9_takeStones_18, eX9_takeStones_21, eX9_takeStones_22, eX9_takeStones_23, eX9_takeStones_24, eX9_takeStones_26, eX9_takeStones_29, eX9_takeStones_32, eX9_takeStones_33, eX9_takeStones_35, eX9_takeStones_37, eX9_takeStones_40, eX9_takeStones_43, eX9_takeStones_44, eX9_takeStones_46, eX9_takeStones_47, eX9_takeStones_49, eX9_takeStones_50, eX9_takeStones_51, eX9_takeStones_52, eX9_takeStones_54, eX9_takeStones_57, if_pos, if_neg, if_true, if_false, Option.bind_some, Option.toList_some, Option.toList_none, List.cons_append, List.nil_append, e1, e2, e3]
      rfl
    · rw [if_neg d]
      have e2 := z_takeDigitN (c := 49) (d := 57) h (show p + 1 ≤ 80 by omega) ⟨by omega, by omega⟩ ⟨by omega, by omega⟩ d
      refine ⟨S, ?_, PX.nil hg⟩
      simp (disch := omega) only [eX9_takeStones_0, eX9_takeStones_1, eX9_takeStones_4, eX9_takeStones_5, eX9_takeStones_6, eX9_takeStones_8, eX9_takeStones_11, eX9_takeStones_14, eX9_takeStones_15, eX9_takeStones_18, eX9_takeStones_21, eX9_takeStones_22, eX9_takeStones_23, eX9_takeStones_24, eX9_takeStones_26, eX9_takeStones_29, eX9_takeStones_32, eX9_takeStones_33, eX9_takeStones_35, eX9_takeStones_37, eX9_takeStones_40, eX9_takeStones_43, eX9_takeStones_44, eX9_takeStones_46, eX9_takeStones_47, eX9_takeStones_49, eX9_takeStones_50, eX9_takeStones_51, eX9_takeStones_52, eX9_takeStones_54, eX9_takeStones_57, if_pos, if_neg, if_true, if_false, Option.bind_some, Option.toList_some, Option.toList_none, List.cons_append, List.nil_append, e1, e2, z_enter1]
      rfl
  · rw [if_neg c]
    have e1 := z_takesIfN h (show p ≤ 80 by omega) ⟨by omega, by omega⟩ c
    have hbp : g ≤ 41 := by omega
    have e3 := z_enter (what := 115) (w := w) (a := a) (b := b) (t := 1) (q := (p : Int)) hg hi hbp
    refine ⟨enM S g (115, i, w, a, b, 1), ?_, enM_PX hg⟩
    simp (disch := omega) only [eX9_takeStones_0, eX9_takeStones_1, eX9_takeStones_4, eX9_takeStones_5, eX9_takeStones_6, eX9_takeStones_8, eX9_takeStones_11, eX9_takeStones_14, eX9_takeStones_15, eX9_takeStones_18, eX9_takeStones_21, eX9_takeStones_22, eX9_takeStones_23, eX9_takeStones_24, eX9_takeStones_26, eX9_takeStones_29, eX9_takeStones_32, eX9_takeStones_33, eX9_takeStones_35, eX9_takeStones_37, eX9_takeStones_40, eX9_takeStones_43, eX9_takeStones_44, eX9_takeStones_46, eX9_takeStones_47, eX9_takeStones_49, eX9_takeStones_50, eX9_takeStones_51, eX9_takeStones_52, eX9_takeStones_54, eX9_takeStones_57, if_pos, if_neg, if_true, if_false, Option.bind_some, Option.toList_some, Option.toList_none, List.cons_append, List.nil_append, e1, e3]
    rfl
theorem z_takeStones {w : Int} (h : RT S P n) (hp : p ≤ n) (hg : S 593 15 = (g : Int)) (hi : S 593 14 = i) (hgp : 2 * g ≤ p) : ∃ S', fX9_takeStones [vR 593, vI w] (PS S (p : Int) 0) = some (none, PS S' ((St P n p).2.1 : Int) (okb (St P n p).1)) ∧ PX S S' g 0 (if (St P n p).1 = true then [(115, i, w, (St P n p).2.2.1, (St P n p).2.2.2.1, (St P n p).2.2.2.2)] else []) := by
  obtain ⟨k9, -⟩ := k9_
  have hn := h.2.1
  have hb := ky_b (P := P) (n := n) (p := p)
  have eN := z_takeKeyN (p := p) h hp
  have eY := z_takeKeyY (p := p) h hp
  unfold St kbad at *
  rw [uX9_takeStones]
  by_cases c : (ky P n p).1 = -6
  · rw [if_pos c]
    have eN := eN c
    refine ⟨S, ?_, PX.nil hg⟩
    simp (disch := omega) only [eX9_takeStones_0, eX9_takeStones_1, eX9_takeStones_4, eX9_takeStones_5, eX9_takeStones_6, eX9_takeStones_8, eX9_takeStones_11, eX9_takeStones_14, eX9_takeStones_15, eX9_takeStones_18, eX9_takeStones_21, eX9_takeStones_22, eX9_takeStones_23, eX9_takeStones_24, eX9_takeStones_26, eX9_takeStones_29, eX9_takeStones_32, eX9_takeStones_33, eX9_takeStones_35, eX9_takeStones_37, eX9_takeStones_40, eX9_takeStones_43, eX9_takeStones_44, eX9_takeStones_46, eX9_takeStones_47, eX9_takeStones_49, eX9_takeStones_50, eX9_takeStones_51, eX9_takeStones_52, eX9_takeStones_54, eX9_takeStones_57, if_pos, if_neg, if_true, if_false, Option.bind_some, Option.toList_some, Option.toList_none, List.cons_append, List.nil_append, eN, z_takesIf1, z_enter1]
    rfl
  · rw [if_neg c]
    have eY := eY c
    have hv : 0 ≤ (ky P n p).1 ∧ (ky P n p).1 ≤ 299 ∧ p + 1 ≤ (ky P n p).2 ∧ (ky P n p).2 ≤ n ∧ p < n := by
      rcases hb with y | y
      · exact absurd y.1 c
      · exact y
    generalize (ky P n p).1 = v at *
    generalize (ky P n p).2 = p1 at *
    by_cases bad : v ≠ 0 ∧ 48 ≤ nx P n p1 ∧ nx P n p1 ≤ 57
    · rw [if_pos bad]
      rw [if_pos bad] at eY
      refine ⟨S, ?_, PX.nil hg⟩
      simp (disch := omega) only [eX9_takeStones_0, eX9_takeStones_1, eX9_takeStones_4, eX9_takeStones_5, eX9_takeStones_6, eX9_takeStones_8, eX9_takeStones_11, eX9_takeStones_14, eX9_takeStones_15, eX9_takeStones_18, eX9_takeStones_21, eX9_takeStones_22, eX9_takeStones_23, eX9_takeStones_24, eX9_takeStones_26, eX9_takeStones_29, eX9_takeStones_32, eX9_takeStones_33, eX9_takeStones_35, eX9_takeStones_37, eX9_takeStones_40, eX9_takeStones_43, eX9_takeStones_44, eX9_takeStones_46, eX9_takeStones_47, eX9_takeStones_49, eX9_takeStones_50, eX9_takeStones_51, eX9_takeStones_52, eX9_takeStones_54, eX9_takeStones_57, if_pos, if_neg, if_true, if_false, Option.bind_some, Option.toList_some, Option.toList_none, List.cons_append, List.nil_append, eY, z_takesIf1, z_enter1]
      rfl
    · rw [if_neg bad]
      rw [if_neg bad] at eY
      by_cases d : nx P n p1 = 45
      · rw [if_pos d]
        have hpn := nx_in2 d (by omega)
        have e1 := z_takesIfY h (show p1 ≤ 80 by omega) d
        have hb2 := ky_b (P := P) (n := n) (p := p1 + 1)
        have eN2 := z_takeKeyN (p := p1 + 1) h (by omega)
        have eY2 := z_takeKeyY (p := p1 + 1) h (by omega)
        unfold kbad at eY2
        by_cases c2 : (ky P n (p1 + 1)).1 = -6
        · rw [if_pos c2]
          have eN2 := eN2 c2
          refine ⟨S, ?_, PX.nil hg⟩
          simp (disch := omega) only [eX9_takeStones_0, eX9_takeStones_1, eX9_takeStones_4, eX9_takeStones_5, eX9_takeStones_6, eX9_takeStones_8, eX9_takeStones_11, eX9_takeStones_14, eX9_takeStones_15, eX9_takeStones_18, eX9_takeStones_21, eX9_takeStones_22, eX9_takeStones_23, eX9_takeStones_24, eX9_takeStones_26, eX9_takeStones_29, eX9_takeStones_32, eX9_takeStones_33, eX9_takeStones_35, eX9_takeStones_37, eX9_takeStones_40, eX9_takeStones_43, eX9_takeStones_44, eX9_takeStones_46, eX9_takeStones_47, eX9_takeStones_49, eX9_takeStones_50, eX9_takeStones_51, eX9_takeStones_52, eX9_takeStones_54, eX9_takeStones_57, if_pos, if_neg, if_true, if_false, Option.bind_some, Option.toList_some, Option.toList_none, List.cons_append, List.nil_append, eY, e1, eN2, z_takesIf1, z_enter1]
          rfl
        · rw [if_neg c2]
          have eY2 := eY2 c2
          have hw : 0 ≤ (ky P n (p1 + 1)).1 ∧ (ky P n (p1 + 1)).1 ≤ 299 ∧ p1 + 1 + 1 ≤ (ky P n (p1 + 1)).2 ∧ (ky P n (p1 + 1)).2 ≤ n ∧ p1 + 1 < n := by
            rcases hb2 with y | y
            · exact absurd y.1 c2
            · exact y
          generalize (ky P n (p1 + 1)).1 = v2 at *
          generalize (ky P n (p1 + 1)).2 = p2 at *
          by_cases bad2 : v2 ≠ 0 ∧ 48 ≤ nx P n p2 ∧ nx P n p2 ≤ 57
          · rw [if_pos bad2]
            rw [if_pos bad2] at eY2
            refine ⟨S, ?_, PX.nil hg⟩
            simp (disch := omega) only [eX9_takeStones_0, eX9_takeStones_1, eX9_takeStones_4, eX9_takeStones_5, eX9_takeStones_6, eX9_takeStones_8, eX9_takeStones_11, eX9_takeStones_14, eX9_takeStones_15, eX9_takeStones_18, eX9_takeStones_21, eX9_takeStones_22, eX9_takeStones_23, eX9_takeStones_24, eX9_takeStones_26, eX9_takeStones_29, eX9_takeStones_32, eX9_takeStones_33, eX9_takeStones_35, eX9_takeStones_37, eX9_takeStones_40, eX9_takeStones_43, eX9_takeStones_44, eX9_takeStones_46, eX9_takeStones_47, eX9_takeStones_49, eX9_takeStones_50, eX9_takeStones_51, eX9_takeStones_52, eX9_takeStones_54, eX9_takeStones_57, if_pos, if_neg, if_true, if_false, Option.bind_some, Option.toList_some, Option.toList_none, List.cons_append, List.nil_append, eY, e1, eY2, z_takesIf1, z_enter1]
            rfl
          · rw [if_neg bad2]
            rw [if_neg bad2] at eY2
            obtain ⟨S', w1, w2⟩ := l_stR (w := w) (a := v) (b := v2) h hw.2.2.2.1 hg hi (by omega)
            refine ⟨S', ?_, w2⟩
            rw [← w1]
            have stop : ∀ X, X = rn xX9_takeStones (23, [some (vR 593), some (vI w), some (vI v), some (vI v2), none], [], PS S (p2 : Int) 0) → X = rn xX9_takeStones (23, [some (vR 593), some (vI w), some (vI v), some (vI v2), none], [], PS S (p2 : Int) 0) := fun _ h => h
            simp (disch := omega) only [eX9_takeStones_0, eX9_takeStones_1, eX9_takeStones_4, eX9_takeStones_5, eX9_takeStones_6, eX9_takeStones_8, eX9_takeStones_11, eX9_takeStones_14, eX9_takeStones_15, eX9_takeStones_18, eX9_takeStones_21, eX9_takeStones_22, eX9_takeStones_23, eX9_takeStones_24, eX9_takeStones_26, eX9_takeStones_29, eX9_takeStones_32, eX9_takeStones_33, eX9_takeStones_35, eX9_takeStones_37, eX9_takeStones_40, eX9_takeStones_43, eX9_takeStones_44, eX9_takeStones_46, eX9_takeStones_47, eX9_takeStones_49, eX9_takeStones_50, eX9_takeStones_51, eX9_takeStones_52, eX9_takeStones_54, eX9_takeStones_57, if_pos, if_neg, if_true, if_false, Option.bind_some, Option.toList_some, Option.toList_none, List.cons_append, List.nil_append, eY, e1, eY2]
      · rw [if_neg d]
        have hb1 := rx_b h p1
        have e1 := z_takesIfN (c := 45) h (show p1 ≤ 80 by omega) ⟨by omega, by omega⟩ d
        obtain ⟨S', w1, w2⟩ := l_stR (w := w) (a := v) (b := v) h hv.2.2.2.1 hg hi (by omega)
        refine ⟨S', ?_, w2⟩
        rw [← w1]
        simp (disch := omega) only [eX9_takeStones_0, eX9_takeStones_1, eX9_takeStones_4, eX9_takeStones_5, eX9_takeStones_6, eX9_takeStones_8, eX9_takeStones_11, eX9_takeStones_14, eX9_takeStones_15, eX9_takeStones_18, eX9_takeStones_21, eX9_takeStones_22, eX9_takeStones_23, eX9_takeStones_24, eX9_takeStones_26, eX9_takeStones_29, eX9_takeStones_32, eX9_takeStones_33, eX9_takeStones_35, eX9_takeStones_37, eX9_takeStones_40, eX9_takeStones_43, eX9_takeStones_44, eX9_takeStones_46, eX9_takeStones_47, eX9_takeStones_49, eX9_takeStones_50, eX9_takeStones_51, eX9_takeStones_52, eX9_takeStones_54, eX9_takeStones_57, if_pos, if_neg, if_true, if_false, Option.bind_some, Option.toList_some, Option.toList_none, List.cons_append, List.nil_append, eY, e1]
theorem z_takeStones1 {w : Int} : fX9_takeStones [vR 593, vI w] (PS S (p : Int) 1) = some (none, PS S (p : Int) 1) := by
  obtain ⟨k9, -⟩ := k9_
  rw [uX9_takeStones]
  simp (disch := omega) only [eX9_takeStones_0, eX9_takeStones_1, eX9_takeStones_4, eX9_takeStones_5, eX9_takeStones_6, eX9_takeStones_8, eX9_takeStones_11, eX9_takeStones_14, eX9_takeStones_15, eX9_takeStones_18, eX9_takeStones_21, eX9_takeStones_22, eX9_takeStones_23, eX9_takeStones_24, eX9_takeStones_26, eX9_takeStones_29, eX9_takeStones_32, eX9_takeStones_33, eX9_takeStones_35, eX9_takeStones_37, eX9_takeStones_40, eX9_takeStones_43, eX9_takeStones_44, eX9_takeStones_46, eX9_takeStones_47, eX9_takeStones_49, eX9_takeStones_50, eX9_takeStones_51, eX9_takeStones_52, eX9_takeStones_54, eX9_takeStones_57, if_pos, if_neg, if_true, if_false, Option.bind_some, Option.toList_some, Option.toList_none, List.cons_append, List.nil_append, z_takeKey1, z_takesIf1, z_enter1]
end MO23
