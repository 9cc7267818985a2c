/-! the reference: orders of a text, its fault -/
section MO24
variable {S S' S1 S2 : MM} {P : Nat → Int} {n g p : Nat} {i : Int}
def stPc (i w : Int) (l : List (Int × Int × Int)) : List (Int × Int × Int × Int × Int × Int) := l.map (fun x => (115, i, w, x.1, x.2.1, x.2.2))
def layR (P : Nat → Int) (n f q : Nat) : Bool × Nat × List (Int × Int × Int) := if nx P n q = 44 then Lst P n f (q + 1) else (true, q, [])
theorem l_lays {w : Int} : ∀ (f q g : Nat) (S : MM), RT S P n → q ≤ n → n < q + 1 + 2 * f → S 593 15 = (g : Int) → S 593 14 = i → 2 * g ≤ q + 1 → ∃ (S' : MM) (L : List (Int × Int × Int × Int × Int × Int)), rn xX9_takeLaying (20, [some (vR 593), some (vI w)], [], PS S (q : Int) 0) = some (none, PS S' ((layR P n f q).2.1 : Int) (okb (layR P n f q).1)) ∧ PX S S' g 0 L ∧ ((layR P n f q).1 = true → L = stPc i w (layR P n f q).2.2) := by
  obtain ⟨k9, -⟩ := k9_
  intro f
  induction f with
  | zero =>
    intro q g S h hq hf hg hi hgp
    have e1 : nx P n q ≠ 44 := fun y => by
      have := nx_in2 y (by omega)
      omega
    have hn := h.2.1
    have e2 := z_takesIfN (c := 44) h (show q ≤ 80 by omega) ⟨by omega, by omega⟩ e1
    unfold layR
    rw [if_neg e1]
    refine ⟨S, [], ?_, PX.nil hg, fun _ => rfl⟩
    rw [eX9_takeLaying_20]
    simp (disch := omega) only [eX9_takeLaying_0, eX9_takeLaying_1, eX9_takeLaying_3, eX9_takeLaying_5, eX9_takeLaying_8, eX9_takeLaying_9, eX9_takeLaying_10, eX9_takeLaying_12, eX9_takeLaying_15, eX9_takeLaying_16, eX9_takeLaying_17, eX9_takeLaying_21, eX9_takeLaying_23, eX9_takeLaying_26, eX9_takeLaying_29, eX9_takeLaying_30, eX9_takeLaying_31, eX9_takeLaying_34, eX9_takeLaying_37, if_pos, if_neg, if_true, if_false, Option.bind_some, Option.toList_some, Option.toList_none, List.cons_append, List.nil_append, e2]
    rfl
  | succ f ih =>
    intro q g S h hq hf hg hi hgp
    have hn := h.2.1
    unfold layR
    by_cases c : nx P n q = 44
    · rw [if_pos c]
      have hqn := nx_in2 c (by omega)
      have e2 := z_takesIfY h (show q ≤ 80 by omega) c
      obtain ⟨T, e3, hT⟩ := z_takeStones (w := w) (p := q + 1) h (by omega) hg hi (by omega)
      obtain ⟨b1, b2, b3⟩ := St_b (P := P) (n := n) (p := q + 1) (by omega)
      rw [Lst]
      by_cases d : (St P n (q + 1)).1 = true
      · rw [if_pos d]
        rw [d] at e3
        rw [if_pos d] at hT
        obtain ⟨z1, z2, z3⟩ := b3 d
        obtain ⟨S', L, w1, w2, w3⟩ := ih (St P n (q + 1)).2.1 (g + 1) T (h.px hT) b2 (by omega) (by rw [hT.2.1]; rfl) (by rw [hT.2.2.1]; omega) (by omega)
        have hT2 := hT.trans w2
        have e : rn xX9_takeLaying (20, [some (vR 593), some (vI w)], [], PS S (q : Int) 0) = rn xX9_takeLaying (20, [some (vR 593), some (vI w)], [], PS T ((St P n (q + 1)).2.1 : Int) 0) := by
          rw [eX9_takeLaying_20]
          unfold okb at e3
          rw [if_pos rfl] at e3
          simp (disch := omega) only [eX9_takeLaying_0, eX9_takeLaying_1, eX9_takeLaying_3, eX9_takeLaying_5, eX9_takeLaying_8, eX9_takeLaying_9, eX9_takeLaying_10, eX9_takeLaying_12, eX9_takeLaying_15, eX9_takeLaying_16, eX9_takeLaying_17, eX9_takeLaying_21, eX9_takeLaying_23, eX9_takeLaying_26, eX9_takeLaying_29, eX9_takeLaying_30, eX9_takeLaying_31, eX9_takeLaying_34, eX9_takeLaying_37, if_pos, if_neg, if_true, if_false, Option.bind_some, Option.toList_some, Option.toList_none, List.cons_append, List.nil_append, e2, e3]
        by_cases d2 : nx P n (St P n (q + 1)).2.1 = 44
        · rw [if_pos d2]
          unfold layR at w1 w3
          rw [if_pos d2] at w1 w3
          exact ⟨S', _, e.trans w1, hT2, fun y => by rw [w3 y]; rfl⟩
        · rw [if_neg d2]
          unfold layR at w1 w3
          rw [if_neg d2] at w1 w3
          exact ⟨S', _, e.trans w1, hT2, fun y => by rw [w3 rfl]; rfl⟩
      · rw [if_neg d]
        unfold okb at e3
        rw [if_neg d] at hT e3
        refine ⟨T, [], ?_, hT, fun y => ft y⟩
        rw [eX9_takeLaying_20]
        simp (disch := omega) only [eX9_takeLaying_0, eX9_takeLaying_1, eX9_takeLaying_3, eX9_takeLaying_5, eX9_takeLaying_8, eX9_takeLaying_9, eX9_takeLaying_10, eX9_takeLaying_12, eX9_takeLaying_15, eX9_takeLaying_16, eX9_takeLaying_17, eX9_takeLaying_21, eX9_takeLaying_23, eX9_takeLaying_26, eX9_takeLaying_29, eX9_takeLaying_30, eX9_takeLaying_31, eX9_takeLaying_34, eX9_takeLaying_37, if_pos, if_neg, if_true, if_false, Option.bind_some, Option.toList_some, Option.toList_none, List.cons_append, List.nil_append, e2, e3]
        rw [eX9_takeLaying_20]
        simp (disch := omega) only [eX9_takeLaying_0, eX9_takeLaying_1, eX9_takeLaying_3, eX9_takeLaying_5, eX9_takeLaying_8, eX9_takeLaying_9, eX9_takeLaying_10, eX9_takeLaying_12, eX9_takeLaying_15, eX9_takeLaying_16, eX9_takeLaying_17, eX9_takeLaying_21, eX9_takeLaying_23, eX9_takeLaying_26, eX9_takeLaying_29, eX9_takeLaying_30, eX9_takeLaying_31, eX9_takeLaying_34, eX9_takeLaying_37, if_pos, if_neg, if_true, if_false, Option.bind_some, Option.toList_some, Option.toList_none, List.cons_append, List.nil_append, z_takesIf1]
        rfl
    · rw [if_neg c]
      have hb := rx_b h q
      have e2 := z_takesIfN (c := 44) h (show q ≤ 80 by omega) ⟨by omega, by omega⟩ c
      refine ⟨S, [], ?_, PX.nil hg, fun _ => rfl⟩
      rw [eX9_takeLaying_20]
      simp (disch := omega) only [eX9_takeLaying_0, eX9_takeLaying_1, eX9_takeLaying_3, eX9_takeLaying_5, eX9_takeLaying_8, eX9_takeLaying_9, eX9_takeLaying_10, eX9_takeLaying_12, eX9_takeLaying_15, eX9_takeLaying_16, eX9_takeLaying_17, eX9_takeLaying_21, eX9_takeLaying_23, eX9_takeLaying_26, eX9_takeLaying_29, eX9_takeLaying_30, eX9_takeLaying_31, eX9_takeLaying_34, eX9_takeLaying_37, if_pos, if_neg, if_true, if_false, Option.bind_some, Option.toList_some, Option.toList_none, List.cons_append, List.nil_append, e2]
      rfl
/-- laying: from the walker's digit on -/
def layO (P : Nat → Int) (n p : Nat) : Bool × Nat × List (Int × Int × Int) := if 48 ≤ nx P n p ∧ nx P n p ≤ 50 then (if nx P n (p + 1) = 58 then Lst P n 80 (p + 2) else (false, p + 1, [])) else (false, p, [])
theorem z_takeLaying (h : RT S P n) (hp : p ≤ n) (hg : S 593 15 = (g : Int)) (hi : S 593 14 = i) (hgp : 2 * g ≤ p) : ∃ (S' : MM) (L : List (Int × Int × Int × Int × Int × Int)), fX9_takeLaying [vR 593] (PS S (p : Int) 0) = some (none, PS S' ((layO P n p).2.1 : Int) (okb (layO P n p).1)) ∧ PX S S' g 0 L ∧ ((layO P n p).1 = true → L = stPc i (nx P n p - 48) (layO P n p).2.2) := by
  obtain ⟨k9, -⟩ := k9_
  have hn := h.2.1
  unfold layO
  rw [uX9_takeLaying]
  by_cases c : 48 ≤ nx P n p ∧ nx P n p ≤ 50
  · rw [if_pos c]
    have hpn := nx_in (P := P) (n := n) (p := p) (by omega)
    have e1 := z_takeDigitY (c := 48) (d := 50) h (show p ≤ 80 by omega) (by omega) (by omega) c
    by_cases d : nx P n (p + 1) = 58
    · rw [if_pos d]
      have hpn2 := nx_in2 d (by omega)
      have e2 := z_takeSignY h (show p + 1 ≤ 80 by omega) d
      obtain ⟨T, e3, hT⟩ := z_takeStones (w := nx P n p - 48) (p := p + 2) h (by omega) hg hi (by omega)
      obtain ⟨b1, b2, b3⟩ := St_b (P := P) (n := n) (p := p + 2) (by omega)
      rw [show p + 1 + 1 = p + 2 from rfl] at e2
      rw [Lst]
      generalize nx P n p - 48 = w at *
      by_cases s : (St P n (p + 2)).1 = true
      · rw [if_pos s]
        rw [s] at e3
        unfold okb at e3
        rw [if_pos rfl] at e3
        rw [if_pos s] at hT
        obtain ⟨z1, z2, z3⟩ := b3 s
        obtain ⟨S', L, w1, w2, w3⟩ := l_lays (i := i) (w := w) 79 (St P n (p + 2)).2.1 (g + 1) T (h.px hT) b2 (by omega) (by rw [hT.2.1]; rfl) (by rw [hT.2.2.1]; omega) (by omega)
        have hT2 := hT.trans w2
        have e : rn xX9_takeLaying (0, [some (vR 593), none], [], PS S (p : Int) 0) = rn xX9_takeLaying (20, [some (vR 593), some (vI w)], [], PS T ((St P n (p + 2)).2.1 : Int) 0) := by
          simp (disch := omega) only [eX9_takeLaying_0, eX9_takeLaying_1, eX9_takeLaying_3, eX9_takeLaying_5, eX9_takeLaying_8, eX9_takeLaying_9, eX9_takeLaying_10, eX9_takeLaying_12, eX9_takeLaying_15, eX9_takeLaying_16, eX9_takeLaying_17, eX9_takeLaying_21, eX9_takeLaying_23, eX9_takeLaying_26, eX9_takeLaying_29, eX9_takeLaying_30, eX9_takeLaying_31, eX9_takeLaying_34, eX9_takeLaying_37, if_pos, if_neg, if_true, if_false, Option.bind_some, Option.toList_some, Option.toList_none, List.cons_append, List.nil_append, e1, e2, e3]
        by_cases d2 : nx P n (St P n (p + 2)).2.1 = 44
        · rw [if_pos d2]
          unfold layR at w1 w3
          rw [if_pos d2] at w1 w3
          exact ⟨S', _, e.trans w1, hT2, fun y => by rw [w3 y]; rfl⟩
        · rw [if_neg d2]
          unfold layR at w1 w3
          rw [if_neg d2] at w1 w3
          exact ⟨S', _, e.trans w1, hT2, fun y => by rw [w3 rfl]; rfl⟩
      · rw [if_neg s]
        unfold okb at e3
        rw [if_neg s] at hT e3
        refine ⟨T, [], ?_, hT, fun y => ft y⟩
        simp (disch := omega) only [eX9_takeLaying_0, eX9_takeLaying_1, eX9_takeLaying_3, eX9_takeLaying_5, eX9_takeLaying_8, eX9_takeLaying_9, eX9_takeLaying_10, eX9_takeLaying_12, eX9_takeLaying_15, eX9_takeLaying_16, eX9_takeLaying_17, eX9_takeLaying_21, eX9_takeLaying_23, eX9_takeLaying_26, eX9_takeLaying_29, eX9_takeLaying_30, eX9_takeLaying_31, eX9_takeLaying_34, eX9_takeLaying_37, if_pos, if_neg, if_true, if_false, Option.bind_some, Option.toList_some, Option.toList_none, List.cons_append, List.nil_append, e1, e2, e3]
        rw [eX9_takeLaying_20]
        simp (disch := omega) only [eX9_takeLaying_0, eX9_takeLaying_1, eX9_takeLaying_3, eX9_takeLaying_5, eX9_takeLaying_8, eX9_takeLaying_9, eX9_takeLaying_10, eX9_takeLaying_12, eX9_takeLaying_15, eX9_takeLaying_16, eX9_takeLaying_17, eX9_takeLaying_21, eX9_takeLaying_23, eX9_takeLaying_26, eX9_takeLaying_29, eX9_takeLaying_30, eX9_takeLaying_31, eX9_takeLaying_34, eX9_takeLaying_37, if_pos, if_neg, if_true, if_false, Option.bind_some, Option.toList_some, Option.toList_none, List.cons_append, List.nil_append, z_takesIf1]
        rfl
    · rw [if_neg d]
      have hb := rx_b h (p + 1)
      have e2 := z_takeSignN (c := 58) h (show p + 1 ≤ 80 by omega) ⟨by omega, by omega⟩ d
      refine ⟨S, [], ?_, PX.nil hg, fun y => ft y⟩
      simp (disch := omega) only [eX9_takeLaying_0, eX9_takeLaying_1, eX9_takeLaying_3, eX9_takeLaying_5, eX9_takeLaying_8, eX9_takeLaying_9, eX9_takeLaying_10, eX9_takeLaying_12, eX9_takeLaying_15, eX9_takeLaying_16, eX9_takeLaying_17, eX9_takeLaying_21, eX9_takeLaying_23, eX9_takeLaying_26, eX9_takeLaying_29, eX9_takeLaying_30, eX9_takeLaying_31, eX9_takeLaying_34, eX9_takeLaying_37, if_pos, if_neg, if_true, if_false, Option.bind_some, Option.toList_some, Option.toList_none, List.cons_append, List.nil_append, e1, e2, z_takeStones1]
      rw [eX9_takeLaying_20]
      simp (disch := omega) only [eX9_takeLaying_0, eX9_takeLaying_1, eX9_takeLaying_3, eX9_takeLaying_5, eX9_takeLaying_8, eX9_takeLaying_9, eX9_takeLaying_10, eX9_takeLaying_12, eX9_takeLaying_15, eX9_takeLaying_16, eX9_takeLaying_17, eX9_takeLaying_21, eX9_takeLaying_23, eX9_takeLaying_26, eX9_takeLaying_29, eX9_takeLaying_30, eX9_takeLaying_31, eX9_takeLaying_34, eX9_takeLaying_37, if_pos, if_neg, if_true, if_false, Option.bind_some, Option.toList_some, Option.toList_none, List.cons_append, List.nil_append, z_takesIf1]
      rfl
  · rw [if_neg c]
    have e1 := z_takeDigitN (c := 48) (d := 50) h (show p ≤ 80 by omega) ⟨by omega, by omega⟩ ⟨by omega, by omega⟩ c
    refine ⟨S, [], ?_, PX.nil hg, fun y => ft y⟩
    simp (disch := omega) only [eX9_takeLaying_0, eX9_takeLaying_1, eX9_takeLaying_3, eX9_takeLaying_5, eX9_takeLaying_8, eX9_takeLaying_9, eX9_takeLaying_10, eX9_takeLaying_12, eX9_takeLaying_15, eX9_takeLaying_16, eX9_takeLaying_17, eX9_takeLaying_21, eX9_takeLaying_23, eX9_takeLaying_26, eX9_takeLaying_29, eX9_takeLaying_30, eX9_takeLaying_31, eX9_takeLaying_34, eX9_takeLaying_37, if_pos, if_neg, if_true, if_false, Option.bind_some, Option.toList_some, Option.toList_none, List.cons_append, List.nil_append, e1, z_takeSign1, z_takeStones1]
    rw [eX9_takeLaying_20]
    simp (disch := omega) only [eX9_takeLaying_0, eX9_takeLaying_1, eX9_takeLaying_3, eX9_takeLaying_5, eX9_takeLaying_8, eX9_takeLaying_9, eX9_takeLaying_10, eX9_takeLaying_12, eX9_takeLaying_15, eX9_takeLaying_16, eX9_takeLaying_17, eX9_takeLaying_21, eX9_takeLaying_23, eX9_takeLaying_26, eX9_takeLaying_29, eX9_takeLaying_30, eX9_takeLaying_31, eX9_takeLaying_34, eX9_takeLaying_37, if_pos, if_neg, if_true, if_false, Option.bind_some, Option.toList_some, Option.toList_none, List.cons_append, List.nil_append, z_takesIf1]
    rfl
/-! a flood -/
def floT (P : Nat → Int) (n : Nat) (w : Int) (p : Nat) : Bool × Nat × Int × Int × Int :=
  if nx P n p = 58 then
    (if (ky P n (p + 1)).1 = -6 then (false, p + 1, 0, 0, 0)
     else if nx P n (ky P n (p + 1)).2 = 45 then
       (if (ky P n ((ky P n (p + 1)).2 + 1)).1 = -6 then (false, (ky P n (p + 1)).2 + 1, 0, 0, 0)
        else if (ky P n ((ky P n (p + 1)).2 + 1)).1 ≠ 0 ∧ 48 ≤ nx P n (ky P n ((ky P n (p + 1)).2 + 1)).2 ∧ nx P n (ky P n ((ky P n (p + 1)).2 + 1)).2 ≤ 57 then (false, (ky P n ((ky P n (p + 1)).2 + 1)).2, 0, 0, 0)
        else (true, (ky P n ((ky P n (p + 1)).2 + 1)).2, w, (ky P n (p + 1)).1, (ky P n ((ky P n (p + 1)).2 + 1)).1))
     else (false, (ky P n (p + 1)).2, 0, 0, 0))
  else (false, p, 0, 0, 0)
theorem l_flo {w : Int} (h : RT S P n) (hp : p ≤ n) (hg : S 593 15 = (g : Int)) (hi : S 593 14 = i) (hgp : 2 * g ≤ p) : ∃ S', rn xX9_takeFlood (22, [some (vR 593), none, none, none], [vI w], PS S (p : Int) 0) = some (none, PS S' ((floT P n w p).2.1 : Int) (okb (floT P n w p).1)) ∧ PX S S' g 0 (if (floT P n w p).1 = true then [(102, i, (floT P n w p).2.2.1, (floT P n w p).2.2.2.1, (floT P n w p).2.2.2.2, 0)] else []) := by
  obtain ⟨k9, -⟩ := k9_
  have hn := h.2.1
  unfold floT
  by_cases c : nx P n p = 58
  · simp only [if_pos c]
    have hpn := nx_in2 c (by omega)
    have e1 := z_takeSignY h (show p ≤ 80 by omega) c
    have hb := ky_b (P := P) (n := n) (p := p + 1)
    have eN := z_takeKeyN (p := p + 1) h (by omega)
    have eY := z_takeKeyY (p := p + 1) h (by omega)
    unfold kbad at eY
    by_cases c1 : (ky P n (p + 1)).1 = -6
    · simp only [if_pos c1]
      have eN := eN c1
      refine ⟨S, ?_, PX.nil hg⟩
      simp (disch := omega) only [eX9_takeFlood_0, eX9_takeFlood_1, eX9_takeFlood_3, eX9_takeFlood_6, eX9_takeFlood_9, eX9_takeFlood_11, eX9_takeFlood_14, eX9_takeFlood_15, eX9_takeFlood_17, eX9_takeFlood_19, eX9_takeFlood_22, eX9_takeFlood_23, eX9_takeFlood_24, eX9_takeFlood_26, eX9_takeFlood_29, eX9_takeFlood_30, eX9_takeFlood_33, eX9_takeFlood_34, eX9_takeFlood_35, eX9_takeFlood_37, eX9_takeFlood_40, eX9_takeFlood_41, eX9_takeFlood_44, eX9_takeFlood_45, eX9_takeFlood_46, eX9_takeFlood_48, eX9_takeFlood_49, eX9_takeFlood_50, eX9_takeFlood_51, eX9_takeFlood_52, eX9_takeFlood_55, if_pos, if_neg, if_true, if_false, Option.bind_some, Option.toList_some, Option.toList_none, List.cons_append, List.nil_append, e1, eN, z_takeSign1, z_takeKey1, z_enter1]
      rfl
    · simp only [if_neg c1]
      have eY := eY c1
      have hv : 0 ≤ (ky P n (p + 1)).1 ∧ (ky P n (p + 1)).1 ≤ 299 ∧ p + 1 + 1 ≤ (ky P n (p + 1)).2 ∧ (ky P n (p + 1)).2 ≤ n ∧ p + 1 < n := by
        rcases hb with y | y
        · exact absurd y.1 c1
        · exact y
      generalize (ky P n (p + 1)).1 = v at *
      generalize (ky P n (p + 1)).2 = p1 at *
      by_cases d : nx P n p1 = 45
      · simp only [if_pos d]
        rw [if_neg (by omega)] at eY
        have hpn2 := nx_in2 d (by omega)
        have e2 := z_takeSignY h (show p1 ≤ 80 by omega) d
        have hb2 := ky_b (P := P) (n := n) (p := p1 + 1)
        have eN2 := z_takeKeyN (p := p1 + 1) h (by omega)
        have eY2 := z_takeKeyY (p := p1 + 1) h (by omega)
        unfold kbad at eY2
        by_cases c2 : (ky P n (p1 + 1)).1 = -6
        · simp only [if_pos c2]
          have eN2 := eN2 c2
          refine ⟨S, ?_, PX.nil hg⟩
          simp (disch := omega) only [eX9_takeFlood_0, eX9_takeFlood_1, eX9_takeFlood_3, eX9_takeFlood_6, eX9_takeFlood_9, eX9_takeFlood_11, eX9_takeFlood_14, eX9_takeFlood_15, eX9_takeFlood_17, eX9_takeFlood_19, eX9_takeFlood_22, eX9_takeFlood_23, eX9_takeFlood_24, eX9_takeFlood_26, eX9_takeFlood_29, eX9_takeFlood_30, eX9_takeFlood_33, eX9_takeFlood_34, eX9_takeFlood_35, eX9_takeFlood_37, eX9_takeFlood_40, eX9_takeFlood_41, eX9_takeFlood_44, eX9_takeFlood_45, eX9_takeFlood_46, eX9_takeFlood_48, eX9_takeFlood_49, eX9_takeFlood_50, eX9_takeFlood_51, eX9_takeFlood_52, eX9_takeFlood_55, if_pos, if_neg, if_true, if_false, Option.bind_some, Option.toList_some, Option.toList_none, List.cons_append, List.nil_append, e1, eY, e2, eN2, z_enter1]
          rfl
        · simp only [if_neg c2]
          have eY2 := eY2 c2
          have hw : 0 ≤ (ky P n (p1 + 1)).1 ∧ (ky P n (p1 + 1)).1 ≤ 299 ∧ p1 + 1 + 1 ≤ (ky P n (p1 + 1)).2 ∧ (ky P n (p1 + 1)).2 ≤ n ∧ p1 + 1 < n := by
            rcases hb2 with y | y
            · exact absurd y.1 c2
            · exact y
          generalize (ky P n (p1 + 1)).1 = v2 at *
          generalize (ky P n (p1 + 1)).2 = p2 at *
          by_cases bad2 : v2 ≠ 0 ∧ 48 ≤ nx P n p2 ∧ nx P n p2 ≤ 57
          · simp only [if_pos bad2]
            rw [if_pos bad2] at eY2
            refine ⟨S, ?_, PX.nil hg⟩
            simp (disch := omega) only [eX9_takeFlood_0, eX9_takeFlood_1, eX9_takeFlood_3, eX9_takeFlood_6, eX9_takeFlood_9, eX9_takeFlood_11, eX9_takeFlood_14, eX9_takeFlood_15, eX9_takeFlood_17, eX9_takeFlood_19, eX9_takeFlood_22, eX9_takeFlood_23, eX9_takeFlood_24, eX9_takeFlood_26, eX9_takeFlood_29, eX9_takeFlood_30, eX9_takeFlood_33, eX9_takeFlood_34, eX9_takeFlood_35, eX9_takeFlood_37, eX9_takeFlood_40, eX9_takeFlood_41, eX9_takeFlood_44, eX9_takeFlood_45, eX9_takeFlood_46, eX9_takeFlood_48, eX9_takeFlood_49, eX9_takeFlood_50, eX9_takeFlood_51, eX9_takeFlood_52, eX9_takeFlood_55, if_pos, if_neg, if_true, if_false, Option.bind_some, Option.toList_some, Option.toList_none, List.cons_append, List.nil_append, e1, eY, e2, eY2, z_enter1]
            rfl
          · simp only [if_neg bad2]
            rw [if_neg bad2] at eY2
            have e3 := z_enter (what := 102) (w := w) (a := v) (b := v2) (t := 0) (q := (p2 : Int)) hg hi (by omega)
            refine ⟨enM S g (102, i, w, v, v2, 0), ?_, enM_PX hg⟩
            simp (disch := omega) only [eX9_takeFlood_0, eX9_takeFlood_1, eX9_takeFlood_3, eX9_takeFlood_6, eX9_takeFlood_9, eX9_takeFlood_11, eX9_takeFlood_14, eX9_takeFlood_15, eX9_takeFlood_17, eX9_takeFlood_19, eX9_takeFlood_22, eX9_takeFlood_23, eX9_takeFlood_24, eX9_takeFlood_26, eX9_takeFlood_29, eX9_takeFlood_30, eX9_takeFlood_33, eX9_takeFlood_34, eX9_takeFlood_35, eX9_takeFlood_37, eX9_takeFlood_40, eX9_takeFlood_41, eX9_takeFlood_44, eX9_takeFlood_45, eX9_takeFlood_46, eX9_takeFlood_48, eX9_takeFlood_49, eX9_takeFlood_50, eX9_takeFlood_51, eX9_takeFlood_52, eX9_takeFlood_55, if_pos, if_neg, if_true, if_false, Option.bind_some, Option.toList_some, Option.toList_none, List.cons_append, List.nil_append, e1, eY, e2, eY2, e3]
            rfl
      · simp only [if_neg d]
        refine ⟨S, ?_, PX.nil hg⟩
        have hb1 := rx_b h p1
        by_cases bad : v ≠ 0 ∧ 48 ≤ nx P n p1 ∧ nx P n p1 ≤ 57
        · rw [if_pos bad] at eY
          simp (disch := omega) only [eX9_takeFlood_0, eX9_takeFlood_1, eX9_takeFlood_3, eX9_takeFlood_6, eX9_takeFlood_9, eX9_takeFlood_11, eX9_takeFlood_14, eX9_takeFlood_15, eX9_takeFlood_17, eX9_takeFlood_19, eX9_takeFlood_22, eX9_takeFlood_23, eX9_takeFlood_24, eX9_takeFlood_26, eX9_takeFlood_29, eX9_takeFlood_30, eX9_takeFlood_33, eX9_takeFlood_34, eX9_takeFlood_35, eX9_takeFlood_37, eX9_takeFlood_40, eX9_takeFlood_41, eX9_takeFlood_44, eX9_takeFlood_45, eX9_takeFlood_46, eX9_takeFlood_48, eX9_takeFlood_49, eX9_takeFlood_50, eX9_takeFlood_51, eX9_takeFlood_52, eX9_takeFlood_55, if_pos, if_neg, if_true, if_false, Option.bind_some, Option.toList_some, Option.toList_none, List.cons_append, List.nil_append, e1, eY, z_takeSign1, z_takeKey1, z_enter1]
          rfl
        · rw [if_neg bad] at eY
          have e2 := z_takeSignN (c := 45) h (show p1 ≤ 80 by omega) ⟨by omega, by omega⟩ d
          simp (disch := omega) only [eX9_takeFlood_0, eX9_takeFlood_1, eX9_takeFlood_3, eX9_takeFlood_6, eX9_takeFlood_9, eX9_takeFlood_11, eX9_takeFlood_14, eX9_takeFlood_15, eX9_takeFlood_17, eX9_takeFlood_19, eX9_takeFlood_22, eX9_takeFlood_23, eX9_takeFlood_24, eX9_takeFlood_26, eX9_takeFlood_29, eX9_takeFlood_30, eX9_takeFlood_33, eX9_takeFlood_34, eX9_takeFlood_35, eX9_takeFlood_37, eX9_takeFlood_40, eX9_takeFlood_41, eX9_takeFlood_44, eX9_takeFlood_45, eX9_takeFlood_46, eX9_takeFlood_48, eX9_takeFlood_49, eX9_takeFlood_50, eX9_takeFlood_51, eX9_takeFlood_52, eX9_takeFlood_55, if_pos, if_neg, if_true, if_false, Option.bind_some, Option.toList_some, Option.toList_none, List.cons_append, List.nil_append, e1, eY, e2, z_takeKey1, z_enter1]
          rfl
  · simp only [if_neg c]
    have hb := rx_b h p
    have e1 := z_takeSignN (c := 58) h (show p ≤ 80 by omega) ⟨by omega, by omega⟩ c
    refine ⟨S, ?_, PX.nil hg⟩
    simp (disch := omega) only [eX9_takeFlood_0, eX9_takeFlood_1, eX9_takeFlood_3, eX9_takeFlood_6, eX9_takeFlood_9, eX9_takeFlood_11, eX9_takeFlood_14, eX9_takeFlood_15, eX9_takeFlood_17, eX9_takeFlood_19, eX9_takeFlood_22, eX9_takeFlood_23, eX9_takeFlood_24, eX9_takeFlood_26, eX9_takeFlood_29, eX9_takeFlood_30, eX9_takeFlood_33, eX9_takeFlood_34, eX9_takeFlood_35, eX9_takeFlood_37, eX9_takeFlood_40, eX9_takeFlood_41, eX9_takeFlood_44, eX9_takeFlood_45, eX9_takeFlood_46, eX9_takeFlood_48, eX9_takeFlood_49, eX9_takeFlood_50, eX9_takeFlood_51, eX9_takeFlood_52, eX9_takeFlood_55, if_pos, if_neg, if_true, if_false, Option.bind_some, Option.toList_some, Option.toList_none, List.cons_append, List.nil_append, e1, z_takeKey1, z_takeSign1, z_enter1]
    rfl
theorem z_takeFlood (h : RT S P n) (hp : p ≤ n) (hg : S 593 15 = (g : Int)) (hi : S 593 14 = i) (hgp : 2 * g ≤ p) : ∃ S', fX9_takeFlood [vR 593] (PS S (p : Int) 0) = some (none, PS S' ((Fl P n p).2.1 : Int) (okb (Fl P n p).1)) ∧ PX S S' g 0 (if (Fl P n p).1 = true then [(102, i, (Fl P n p).2.2.1, (Fl P n p).2.2.2.1, (Fl P n p).2.2.2.2, 0)] else []) := by
  obtain ⟨k9, -⟩ := k9_
  have hn := h.2.1
  unfold Fl
  by_cases c : nx P n p = 42
  · have hpn := nx_in2 c (by omega)
    have e1 := z_takesIfY h (show p ≤ 80 by omega) c
    obtain ⟨S', w1, w2⟩ := l_flo (w := -6) (p := p + 1) h (by omega) hg hi (by omega)
    simp only [if_pos (show nx P n p = 42 ∨ (48 ≤ nx P n p ∧ nx P n p ≤ 50) from Or.inl c), if_pos c]
    unfold floT at w1 w2
    refine ⟨S', ?_, w2⟩
    rw [uX9_takeFlood]
    have e : rn xX9_takeFlood (0, [some (vR 593), none, none, none], [], PS S (p : Int) 0) = rn xX9_takeFlood (22, [some (vR 593), none, none, none], [vI (-6)], PS S ((p + 1 : Nat) : Int) 0) := by
      simp (disch := omega) only [eX9_takeFlood_0, eX9_takeFlood_1, eX9_takeFlood_3, eX9_takeFlood_6, eX9_takeFlood_9, eX9_takeFlood_11, eX9_takeFlood_14, eX9_takeFlood_15, eX9_takeFlood_17, eX9_takeFlood_19, eX9_takeFlood_22, eX9_takeFlood_23, eX9_takeFlood_24, eX9_takeFlood_26, eX9_takeFlood_29, eX9_takeFlood_30, eX9_takeFlood_33, eX9_takeFlood_34, eX9_takeFlood_35, eX9_takeFlood_37, eX9_takeFlood_40, eX9_takeFlood_41, eX9_takeFlood_44, eX9_takeFlood_45, eX9_takeFlood_46, eX9_takeFlood_48, eX9_takeFlood_49, eX9_takeFlood_50, eX9_takeFlood_51, eX9_takeFlood_52, eX9_takeFlood_55, if_pos, if_neg, if_true, if_false, Option.bind_some, Option.toList_some, Option.toList_none, List.cons_append, List.nil_append, e1]
    exact e.trans w1
  · have hb := rx_b h p
    have e1 := z_takesIfN (c := 42) h (show p ≤ 80 by omega) ⟨by omega, by omega⟩ c
    by_cases d : 48 ≤ nx P n p ∧ nx P n p ≤ 50
    · have hpn := nx_in (P := P) (n := n) (p := p) (by omega)
      have e2 := z_takeDigitY (c := 48) (d := 50) h (show p ≤ 80 by omega) (by omega) (by omega) d
      obtain ⟨S', w1, w2⟩ := l_flo (w := nx P n p - 48) (p := p + 1) h (by omega) hg hi (by omega)
      simp only [if_pos (show nx P n p = 42 ∨ (48 ≤ nx P n p ∧ nx P n p ≤ 50) from Or.inr d), if_neg c]
      unfold floT at w1 w2
      refine ⟨S', ?_, w2⟩
      rw [uX9_takeFlood]
      have e : rn xX9_takeFlood (0, [some (vR 593), none, none, none], [], PS S (p : Int) 0) = rn xX9_takeFlood (22, [some (vR 593), none, none, none], [vI (nx P n p - 48)], PS S ((p + 1 : Nat) : Int) 0) := by
        generalize nx P n p - 48 = z at *
        simp (disch := omega) only [eX9_takeFlood_0, eX9_takeFlood_1, eX9_takeFlood_3, eX9_takeFlood_6, eX9_takeFlood_9, eX9_takeFlood_11, eX9_takeFlood_14, eX9_takeFlood_15, eX9_takeFlood_17, eX9_takeFlood_19, eX9_takeFlood_22, eX9_takeFlood_23, eX9_takeFlood_24, eX9_takeFlood_26, eX9_takeFlood_29, eX9_takeFlood_30, eX9_takeFlood_33, eX9_takeFlood_34, eX9_takeFlood_35, eX9_takeFlood_37, eX9_takeFlood_40, eX9_takeFlood_41, eX9_takeFlood_44, eX9_takeFlood_45, eX9_takeFlood_46, eX9_takeFlood_48, eX9_takeFlood_49, eX9_takeFlood_50, eX9_takeFlood_51, eX9_takeFlood_52, eX9_takeFlood_55, if_pos, if_neg, if_true, if_false, Option.bind_some, Option.toList_some, Option.toList_none, List.cons_append, List.nil_append, e1, e2]
      exact e.trans w1
    · have e2 := z_takeDigitN (c := 48) (d := 50) h (show p ≤ 80 by omega) ⟨by omega, by omega⟩ ⟨by omega, by omega⟩ d
      rw [if_neg (show ¬ (nx P n p = 42 ∨ (48 ≤ nx P n p ∧ nx P n p ≤ 50)) from fun y => by omega)]
      refine ⟨S, ?_, PX.nil hg⟩
      rw [uX9_takeFlood]
      simp (disch := omega) only [eX9_takeFlood_0, eX9_takeFlood_1, eX9_takeFlood_3, eX9_takeFlood_6, eX9_takeFlood_9, eX9_takeFlood_11, eX9_takeFlood_14, eX9_takeFlood_15, eX9_takeFlood_17, eX9_takeFlood_19, eX9_takeFlood_22, eX9_takeFlood_23, eX9_takeFlood_24, eX9_takeFlood_26, eX9_takeFlood_29, eX9_takeFlood_30, eX9_takeFlood_33, eX9_takeFlood_34, eX9_takeFlood_35, eX9_takeFlood_37, eX9_takeFlood_40, eX9_takeFlood_41, eX9_takeFlood_44, eX9_takeFlood_45, eX9_takeFlood_46, eX9_takeFlood_48, eX9_takeFlood_49, eX9_takeFlood_50, eX9_takeFlood_51, eX9_takeFlood_52, eX9_takeFlood_55, if_pos, if_neg, if_true, if_false, Option.bind_some, Option.toList_some, Option.toList_none, List.cons_append, List.nil_append, e1, e2, z_takeSign1, z_takeKey1, z_enter1]
      rfl
end MO24
