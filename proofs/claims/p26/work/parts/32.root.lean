/-! the class's changes -/
section ROOT2
variable {S S' : MM} {A A' : Nat → Int} {m : Nat} {H : Nat → Nat → Int} {K : Nat → Int} {V : Nat → Nat → Int} {P : Nat → Int} {n : Nat}
def hiS (j : Int) : Int := if j = 2 then 2 else if j = 3 then 5 else 299
theorem s_highestValue {j : Int} (hj : rng j) : fX8_highestValue [vI j] S = some (some (vI (hiS j)), S) := by
  obtain ⟨h1, h2⟩ := hj
  rw [uX8_highestValue]
  unfold hiS
  by_cases c : j = 2
  · simp (disch := omega) only [eX8_highestValue_0, eX8_highestValue_1, eX8_highestValue_28, eX8_highestValue_29, eX8_highestValue_30, eX8_highestValue_31, eX8_highestValue_32, eX8_highestValue_35, if_pos, if_neg, if_true, if_false, Option.bind_some, Option.toList_some, Option.toList_none, List.cons_append, List.nil_append]
  · by_cases d : j = 3
    · simp (disch := omega) only [eX8_highestValue_0, eX8_highestValue_1, eX8_highestValue_28, eX8_highestValue_29, eX8_highestValue_30, eX8_highestValue_31, eX8_highestValue_32, eX8_highestValue_35, if_pos, if_neg, if_true, if_false, Option.bind_some, Option.toList_some, Option.toList_none, List.cons_append, List.nil_append]
    · simp (disch := omega) only [eX8_highestValue_0, eX8_highestValue_1, eX8_highestValue_28, eX8_highestValue_29, eX8_highestValue_30, eX8_highestValue_31, eX8_highestValue_32, eX8_highestValue_35, if_pos, if_neg, if_true, if_false, Option.bind_some, Option.toList_some, Option.toList_none, List.cons_append, List.nil_append]
theorem hiS_b (j : Int) : 2 ≤ hiS j ∧ hiS j ≤ 299 := by
  unfold hiS
  split
  · omega
  · split <;> omega
theorem s_set {j z : Int} (h : XIs S A m H K V P n) (hj : 0 ≤ j ∧ j ≤ 3) (hz : 0 ≤ z ∧ z ≤ hiS j) : ∃ S', fX8_set [vR 0, vI j, vI z] S = some (some (vI (A j.toNat)), S') ∧ XIs S' (mSet A j.toNat z) (mM m) (mH m H A) K V P n ∧ (∀ a, 593 ≤ a → S' a = S a) := by
  have hb := hiS_b j
  have e1 := s_isBetween (S := S) (a := j) (b := 0) (c := 3) ⟨by omega, by omega⟩ ⟨by omega, by omega⟩ ⟨by omega, by omega⟩
  rw [if_pos hj] at e1
  have e2 := s_highestValue (S := S) (j := j) ⟨by omega, by omega⟩
  have e3 := s_isBetween (S := S) (a := z) (b := 0) (c := hiS j) ⟨by omega, by omega⟩ ⟨by omega, by omega⟩ ⟨by omega, by omega⟩
  rw [if_pos hz] at e3
  obtain ⟨S1, e4, h1, f1⟩ := s_remember h
  obtain ⟨S2, e5, h2, f2⟩ := s_changeSetting scn0 h1.1 hj (z := z) hz
  obtain ⟨k0, -⟩ := scn0
  refine ⟨S2, ?_, h1.now h2 (fun a ha => f2 a (by omega)), fun a ha => by rw [f2 a (by omega), f1 a ha]⟩
  rw [uX8_set]
  simp (disch := omega) only [eX8_set_0, eX8_set_1, eX8_set_2, eX8_set_3, eX8_set_6, eX8_set_9, eX8_set_10, eX8_set_11, eX8_set_12, eX8_set_15, eX8_set_18, eX8_set_21, eX8_set_23, eX8_set_24, eX8_set_25, eX8_set_28, eX8_set_29, eX8_set_32, eX8_set_33, eX8_set_34, eX8_set_37, if_pos, if_neg, if_true, if_false, Option.bind_some, Option.toList_some, Option.toList_none, List.cons_append, List.nil_append, e1, e2, e3, e4, e5]
theorem s_setX {j z : Int} (hj : rng j) (hz : rng z) (hn : ¬ ((0 ≤ j ∧ j ≤ 3) ∧ 0 ≤ z ∧ z ≤ hiS j)) : fX8_set [vR 0, vI j, vI z] S = some (some (vI (-2)), S) := by
  have hb := hiS_b j
  have e1 := s_isBetween (S := S) (a := j) (b := 0) (c := 3) hj ⟨by omega, by omega⟩ ⟨by omega, by omega⟩
  rw [uX8_set]
  by_cases c : 0 ≤ j ∧ j ≤ 3
  · rw [if_pos c] at e1
    have e2 := s_highestValue (S := S) hj
    have e3 := s_isBetween (S := S) (a := z) (b := 0) (c := hiS j) hz ⟨by omega, by omega⟩ ⟨by omega, by omega⟩
    rw [if_neg (fun y => hn ⟨c, y⟩)] at e3
    simp (disch := omega) only [eX8_set_0, eX8_set_1, eX8_set_2, eX8_set_3, eX8_set_6, eX8_set_9, eX8_set_10, eX8_set_11, eX8_set_12, eX8_set_15, eX8_set_18, eX8_set_21, eX8_set_23, eX8_set_24, eX8_set_25, eX8_set_28, eX8_set_29, eX8_set_32, eX8_set_33, eX8_set_34, eX8_set_37, if_pos, if_neg, if_true, if_false, Option.bind_some, Option.toList_some, Option.toList_none, List.cons_append, List.nil_append, e1, e2, e3]
  · rw [if_neg c] at e1
    simp (disch := omega) only [eX8_set_0, eX8_set_1, eX8_set_2, eX8_set_3, eX8_set_6, eX8_set_9, eX8_set_10, eX8_set_11, eX8_set_12, eX8_set_15, eX8_set_18, eX8_set_21, eX8_set_23, eX8_set_24, eX8_set_25, eX8_set_28, eX8_set_29, eX8_set_32, eX8_set_33, eX8_set_34, eX8_set_37, if_pos, if_neg, if_true, if_false, Option.bind_some, Option.toList_some, Option.toList_none, List.cons_append, List.nil_append, e1]
theorem errLay_v {w key t : Int} : (errLay A w key t = 0 ∧ (0 ≤ w ∧ w ≤ 2) ∧ (0 ≤ key ∧ key ≤ 299) ∧ (1 ≤ t ∧ t ≤ 9) ∧ (cnt (RA A w.toNat) 300 < 40 ∨ 0 < RA A w.toNat key.toNat)) ∨ (errLay A w key t < 0 ∧ -4 ≤ errLay A w key t) := by
  unfold errLay
  by_cases q : 0 ≤ w ∧ w ≤ 2
  · rw [if_neg (fun y => y q)]
    by_cases q1 : ¬ (0 ≤ key ∧ key ≤ 299) ∨ ¬ (1 ≤ t ∧ t ≤ 9)
    · rw [if_pos q1]
      exact Or.inr ⟨by omega, by omega⟩
    · rw [if_neg q1]
      by_cases z : cnt (RA A w.toNat) 300 < 40 ∨ 0 < RA A w.toNat key.toNat
      · rw [if_pos z]
        exact Or.inl ⟨rfl, q, by omega, by omega, z⟩
      · rw [if_neg z]
        exact Or.inr ⟨by omega, by omega⟩
  · rw [if_pos q]
    exact Or.inr ⟨by omega, by omega⟩
theorem s_stone {w key t : Int} (h : XIs S A m H K V P n) (hw : rng w) (hk : rng key) (ht : rng t) (he : errLay A w key t = 0) : ∃ S', fX8_stone [vR 0, vI w, vI key, vI t] S = some (some (vI (RA A w.toNat key.toNat)), S') ∧ XIs S' (mLay A w key t) (mM m) (mH m H A) K V P n ∧ (∀ a, 593 ≤ a → S' a = S a) := by
  have e1 := s_errorOfLaying (S := S) scn0 h.1.2.2.1 hw hk ht
  rw [he] at e1
  obtain ⟨q1, q2, q3, q4⟩ : (0 ≤ w ∧ w ≤ 2) ∧ (0 ≤ key ∧ key ≤ 299) ∧ (1 ≤ t ∧ t ≤ 9) ∧ (cnt (RA A w.toNat) 300 < 40 ∨ 0 < RA A w.toNat key.toNat) := by
    rcases errLay_v (A := A) (w := w) (key := key) (t := t) with y | y
    · exact y.2
    · omega
  obtain ⟨S1, e4, h1, f1⟩ := s_remember h
  obtain ⟨S2, e5, h2, f2⟩ := s_lay scn0 h1.1 q1 q2 q3 q4
  obtain ⟨k0, -⟩ := scn0
  refine ⟨S2, ?_, h1.now h2 (fun a ha => f2 a (by omega)), fun a ha => by rw [f2 a (by omega), f1 a ha]⟩
  rw [uX8_stone]
  simp (disch := omega) only [eX8_stone_0, eX8_stone_1, eX8_stone_4, eX8_stone_5, eX8_stone_6, eX8_stone_7, eX8_stone_10, eX8_stone_12, eX8_stone_14, eX8_stone_17, eX8_stone_19, eX8_stone_20, eX8_stone_21, eX8_stone_24, eX8_stone_25, eX8_stone_28, eX8_stone_29, eX8_stone_30, eX8_stone_31, eX8_stone_34, if_pos, if_neg, if_true, if_false, Option.bind_some, Option.toList_some, Option.toList_none, List.cons_append, List.nil_append, e1, e4, e5]
theorem s_stoneX {w key t : Int} (h : XIs S A m H K V P n) (hw : rng w) (hk : rng key) (ht : rng t) (he : errLay A w key t < 0) : fX8_stone [vR 0, vI w, vI key, vI t] S = some (some (vI (errLay A w key t)), S) := by
  have e1 := s_errorOfLaying (S := S) scn0 h.1.2.2.1 hw hk ht
  have hb : -4 ≤ errLay A w key t := by
    rcases errLay_v (A := A) (w := w) (key := key) (t := t) with y | y
    · omega
    · exact y.2
  obtain ⟨k0, -⟩ := scn0
  rw [uX8_stone]
  simp (disch := omega) only [eX8_stone_0, eX8_stone_1, eX8_stone_4, eX8_stone_5, eX8_stone_6, eX8_stone_7, eX8_stone_10, eX8_stone_12, eX8_stone_14, eX8_stone_17, eX8_stone_19, eX8_stone_20, eX8_stone_21, eX8_stone_24, eX8_stone_25, eX8_stone_28, eX8_stone_29, eX8_stone_30, eX8_stone_31, eX8_stone_34, if_pos, if_neg, if_true, if_false, Option.bind_some, Option.toList_some, Option.toList_none, List.cons_append, List.nil_append, e1]
def errFl (w a b : Int) : Int := if w ≠ -6 ∧ ¬ (0 ≤ w ∧ w ≤ 2) then -1 else if (0 ≤ a ∧ a ≤ 299) ∧ a ≤ b ∧ b ≤ 299 then 0 else -2
theorem errFl_v {w a b : Int} : (errFl w a b = 0 ∧ (w = -6 ∨ (0 ≤ w ∧ w ≤ 2)) ∧ (0 ≤ a ∧ a ≤ 299) ∧ a ≤ b ∧ b ≤ 299) ∨ (errFl w a b < 0 ∧ -2 ≤ errFl w a b) := by
  unfold errFl
  by_cases q : w ≠ -6 ∧ ¬ (0 ≤ w ∧ w ≤ 2)
  · rw [if_pos q]
    exact Or.inr ⟨by omega, by omega⟩
  · rw [if_neg q]
    by_cases z : (0 ≤ a ∧ a ≤ 299) ∧ a ≤ b ∧ b ≤ 299
    · rw [if_pos z]
      exact Or.inl ⟨rfl, by omega, z⟩
    · rw [if_neg z]
      exact Or.inr ⟨by omega, by omega⟩
theorem s_flood {w a b : Int} (h : XIs S A m H K V P n) (hw : rng w) (ha : rng a) (hb : rng b) (he : errFl w a b = 0) : ∃ S', fX8_flood [vR 0, vI w, vI a, vI b] S = some (some (vI ((cnt (nT A w a b 0) 300 : Int) + cnt (nT A w a b 1) 300 + cnt (nT A w a b 2) 300)), S') ∧ XIs S' (mTake A w a b) (mM m) (mH m H A) K V P n ∧ (∀ a, 593 ≤ a → S' a = S a) := by
  have e1 := s_errorOfFlooding (S := S) scn0 hw ha hb
  rw [show (if w ≠ -6 ∧ ¬ (0 ≤ w ∧ w ≤ 2) then (-1 : Int) else if (0 ≤ a ∧ a ≤ 299) ∧ a ≤ b ∧ b ≤ 299 then 0 else -2) = errFl w a b from rfl, he] at e1
  obtain ⟨q1, q2, q3⟩ : (w = -6 ∨ (0 ≤ w ∧ w ≤ 2)) ∧ (0 ≤ a ∧ a ≤ 299) ∧ a ≤ b ∧ b ≤ 299 := by
    rcases errFl_v (w := w) (a := a) (b := b) with y | y
    · exact y.2
    · omega
  obtain ⟨S1, e4, h1, f1⟩ := s_remember h
  obtain ⟨S2, e5, h2, f2⟩ := s_takeAway scn0 h1.1 q2 q3 q1
  obtain ⟨k0, -⟩ := scn0
  refine ⟨S2, ?_, h1.now h2 (fun a ha => f2 a (by omega)), fun a ha => by rw [f2 a (by omega), f1 a ha]⟩
  rw [uX8_flood]
  simp (disch := omega) only [eX8_flood_0, eX8_flood_1, eX8_flood_4, eX8_flood_5, eX8_flood_6, eX8_flood_7, eX8_flood_10, eX8_flood_12, eX8_flood_14, eX8_flood_17, eX8_flood_19, eX8_flood_20, eX8_flood_21, eX8_flood_24, eX8_flood_25, eX8_flood_28, eX8_flood_29, eX8_flood_30, eX8_flood_31, eX8_flood_34, if_pos, if_neg, if_true, if_false, Option.bind_some, Option.toList_some, Option.toList_none, List.cons_append, List.nil_append, e1, e4, e5]
theorem s_floodX {w a b : Int} (hw : rng w) (ha : rng a) (hb : rng b) (he : errFl w a b < 0) : fX8_flood [vR 0, vI w, vI a, vI b] S = some (some (vI (errFl w a b)), S) := by
  have e1 := s_errorOfFlooding (S := S) scn0 hw ha hb
  rw [show (if w ≠ -6 ∧ ¬ (0 ≤ w ∧ w ≤ 2) then (-1 : Int) else if (0 ≤ a ∧ a ≤ 299) ∧ a ≤ b ∧ b ≤ 299 then 0 else -2) = errFl w a b from rfl] at e1
  have hb2 : -2 ≤ errFl w a b := by
    rcases errFl_v (w := w) (a := a) (b := b) with y | y
    · omega
    · exact y.2
  obtain ⟨k0, -⟩ := scn0
  rw [uX8_flood]
  simp (disch := omega) only [eX8_flood_0, eX8_flood_1, eX8_flood_4, eX8_flood_5, eX8_flood_6, eX8_flood_7, eX8_flood_10, eX8_flood_12, eX8_flood_14, eX8_flood_17, eX8_flood_19, eX8_flood_20, eX8_flood_21, eX8_flood_24, eX8_flood_25, eX8_flood_28, eX8_flood_29, eX8_flood_30, eX8_flood_31, eX8_flood_34, if_pos, if_neg, if_true, if_false, Option.bind_some, Option.toList_some, Option.toList_none, List.cons_append, List.nil_append, e1]
theorem errDry_v : errDry A = 0 ∨ (errDry A < 0 ∧ -5 ≤ errDry A) := by
  unfold errDry
  split
  · omega
  · split <;> omega
theorem s_dry (h : XIs S A m H K V P n) (he : errDry A = 0) : ∃ S', fX8_dry [vR 0] S = some (some (vI ((cnt (tk A 0) 300 : Int) + cnt (tk A 1) 300 + cnt (tk A 2) 300)), S') ∧ XIs S' (mDry A) (mM m) (mH m H A) K V P n ∧ (∀ a, 593 ≤ a → S' a = S a) := by
  have e1 := s_errorOfDrying (S := S) scn0 h.1
  rw [he] at e1
  obtain ⟨S1, e4, h1, f1⟩ := s_remember h
  obtain ⟨S2, e5, h2, f2⟩ := s_giveBack scn0 h1.1 he
  obtain ⟨k0, -⟩ := scn0
  refine ⟨S2, ?_, h1.now h2 (fun a ha => f2 a (by omega)), fun a ha => by rw [f2 a (by omega), f1 a ha]⟩
  rw [uX8_dry]
  simp (disch := omega) only [eX8_dry_0, eX8_dry_1, eX8_dry_4, eX8_dry_7, eX8_dry_8, eX8_dry_9, eX8_dry_12, eX8_dry_13, eX8_dry_14, eX8_dry_15, eX8_dry_18, eX8_dry_19, eX8_dry_22, eX8_dry_25, if_pos, if_neg, if_true, if_false, Option.bind_some, Option.toList_some, Option.toList_none, List.cons_append, List.nil_append, e1, e4, e5]
theorem s_dryX (h : XIs S A m H K V P n) (he : errDry A < 0) : fX8_dry [vR 0] S = some (some (vI (errDry A)), S) := by
  have e1 := s_errorOfDrying (S := S) scn0 h.1
  have hb := errDry_v (A := A)
  obtain ⟨k0, -⟩ := scn0
  rw [uX8_dry]
  simp (disch := omega) only [eX8_dry_0, eX8_dry_1, eX8_dry_4, eX8_dry_7, eX8_dry_8, eX8_dry_9, eX8_dry_12, eX8_dry_13, eX8_dry_14, eX8_dry_15, eX8_dry_18, eX8_dry_19, eX8_dry_22, eX8_dry_25, if_pos, if_neg, if_true, if_false, Option.bind_some, Option.toList_some, Option.toList_none, List.cons_append, List.nil_append, e1]
theorem s_begin (h : XIs S A m H K V P n) : ∃ S', fX8_begin [vR 0] S = some (some (vI (if mBegin A 4 = 2 then 1 else 0)), S') ∧ XIs S' (mBegin A) (mM m) (mH m H A) K V P n ∧ (∀ a, 593 ≤ a → S' a = S a) := by
  obtain ⟨S1, e4, h1, f1⟩ := s_remember h
  obtain ⟨S2, e5, h2, f2⟩ := s_scStart scn0 h1.1 h1.2.1 (by omega)
  obtain ⟨k0, -⟩ := scn0
  refine ⟨S2, ?_, h1.now h2 (fun a ha => f2 a (by omega)), fun a ha => by rw [f2 a (by omega), f1 a ha]⟩
  rw [uX8_begin]
  simp (disch := omega) only [eX8_begin_0, eX8_begin_1, eX8_begin_4, eX8_begin_5, eX8_begin_8, eX8_begin_11, if_pos, if_neg, if_true, if_false, Option.bind_some, Option.toList_some, Option.toList_none, List.cons_append, List.nil_append, e4, e5]
theorem s_leap (h : XIs S A m H K V P n) (h4 : A 4 = 1) : ∃ S', fX8_leap [vR 0] S = some (some (vI (nxtW A)), S') ∧ XIs S' (mLeap A (RA A)) (mM m) (mH m H A) K V P n ∧ (∀ a, 593 ≤ a → S' a = S a) := by
  have hc := scn0.2.2.2.2
  have e1 := s_goesOn hc h.1.2.2.2.2.2.1
  rw [if_pos h4] at e1
  obtain ⟨S1, e4, h1, f1⟩ := s_remember h
  obtain ⟨S2, e5, h2, f2⟩ := s_scStep scn0 h1.1 h1.2.1 (by omega) h4
  obtain ⟨k0, -⟩ := scn0
  obtain ⟨⟨c0, -⟩, -⟩ := id hc
  refine ⟨S2, ?_, h1.now h2 (fun a ha => f2 a (by omega)), fun a ha => by rw [f2 a (by omega), f1 a ha]⟩
  rw [uX8_leap]
  simp (disch := omega) only [eX8_leap_0, eX8_leap_1, eX8_leap_4, eX8_leap_7, eX8_leap_10, eX8_leap_13, eX8_leap_15, eX8_leap_16, eX8_leap_17, eX8_leap_20, eX8_leap_21, eX8_leap_24, eX8_leap_27, if_pos, if_neg, if_true, if_false, Option.bind_some, Option.toList_some, Option.toList_none, List.cons_append, List.nil_append, e1, e4, e5]
theorem s_leapX (h : XIs S A m H K V P n) (h4 : A 4 ≠ 1) : fX8_leap [vR 0] S = some (some (vI (-5)), S) := by
  have hc := scn0.2.2.2.2
  have e1 := s_goesOn hc h.1.2.2.2.2.2.1
  rw [if_neg h4] at e1
  obtain ⟨k0, -⟩ := scn0
  obtain ⟨⟨c0, -⟩, -⟩ := id hc
  rw [uX8_leap]
  simp (disch := omega) only [eX8_leap_0, eX8_leap_1, eX8_leap_4, eX8_leap_7, eX8_leap_10, eX8_leap_13, eX8_leap_15, eX8_leap_16, eX8_leap_17, eX8_leap_20, eX8_leap_21, eX8_leap_24, eX8_leap_27, if_pos, if_neg, if_true, if_false, Option.bind_some, Option.toList_some, Option.toList_none, List.cons_append, List.nil_append, e1]
theorem s_runR (h : XIs S A m H K V P n) (h4 : A 4 = 1) : ∃ S', fX8_run [vR 0] S = some (some (vI (mRun A (RA A)).2), S') ∧ XIs S' (mRun A (RA A)).1 (mM m) (mH m H A) K V P n ∧ (∀ a, 593 ≤ a → S' a = S a) := by
  have hc := scn0.2.2.2.2
  have e1 := s_goesOn hc h.1.2.2.2.2.2.1
  rw [if_pos h4] at e1
  obtain ⟨S1, e4, h1, f1⟩ := s_remember h
  obtain ⟨S2, e5, h2, f2⟩ := s_scFinish scn0 h1.1 h1.2.1 (by omega)
  obtain ⟨k0, -⟩ := scn0
  obtain ⟨⟨c0, -⟩, -⟩ := id hc
  refine ⟨S2, ?_, h1.now h2 (fun a ha => f2 a (by omega)), fun a ha => by rw [f2 a (by omega), f1 a ha]⟩
  rw [uX8_run]
  simp (disch := omega) only [eX8_run_0, eX8_run_1, eX8_run_4, eX8_run_7, eX8_run_10, eX8_run_13, eX8_run_15, eX8_run_16, eX8_run_17, eX8_run_20, eX8_run_21, eX8_run_24, eX8_run_27, eX8_run_28, eX8_run_31, eX8_run_34, eX8_run_35, eX8_run_38, eX8_run_41, eX8_run_44, if_pos, if_neg, if_true, if_false, Option.bind_some, Option.toList_some, Option.toList_none, List.cons_append, List.nil_append, e1, e4, e5]
theorem s_runX (h : XIs S A m H K V P n) (h4 : A 4 ≠ 1) : fX8_run [vR 0] S = some (some (vI (-5)), S) := by
  have hc := scn0.2.2.2.2
  have e1 := s_goesOn hc h.1.2.2.2.2.2.1
  rw [if_neg h4] at e1
  obtain ⟨k0, -⟩ := scn0
  obtain ⟨⟨c0, -⟩, -⟩ := id hc
  rw [uX8_run]
  simp (disch := omega) only [eX8_run_0, eX8_run_1, eX8_run_4, eX8_run_7, eX8_run_10, eX8_run_13, eX8_run_15, eX8_run_16, eX8_run_17, eX8_run_20, eX8_run_21, eX8_run_24, eX8_run_27, eX8_run_28, eX8_run_31, eX8_run_34, eX8_run_35, eX8_run_38, eX8_run_41, eX8_run_44, if_pos, if_neg, if_true, if_false, Option.bind_some, Option.toList_some, Option.toList_none, List.cons_append, List.nil_append, e1]
def sumR (A : Nat → Int) : Int := (cnt (RA A 0) 300 : Int) + cnt (RA A 1) 300 + cnt (RA A 2) 300
theorem s_isSlot {i : Int} (hi : rng i) : fX8_isSlot [vI i] S = some (some (vI (if 0 ≤ i ∧ i ≤ 1 then 1 else 0)), S) := by
  have e1 := s_isBetween (S := S) (a := i) (b := 0) (c := 1) hi ⟨by omega, by omega⟩ ⟨by omega, by omega⟩
  rw [uX8_isSlot]
  by_cases c : 0 ≤ i ∧ i ≤ 1
  · rw [if_pos c] at e1 ⊢
    simp (disch := omega) only [eX8_isSlot_0, eX8_isSlot_1, eX8_isSlot_2, eX8_isSlot_3, eX8_isSlot_6, if_pos, if_neg, if_true, if_false, Option.bind_some, Option.toList_some, Option.toList_none, List.cons_append, List.nil_append, e1]
  · rw [if_neg c] at e1 ⊢
    simp (disch := omega) only [eX8_isSlot_0, eX8_isSlot_1, eX8_isSlot_2, eX8_isSlot_3, eX8_isSlot_6, if_pos, if_neg, if_true, if_false, Option.bind_some, Option.toList_some, Option.toList_none, List.cons_append, List.nil_append, e1]
theorem s_saveX {i : Int} (hi : rng i) (hn : ¬ (0 ≤ i ∧ i ≤ 1)) : fX8_save [vR 0, vI i] S = some (some (vI (-2)), S) := by
  have e1 := s_isSlot (S := S) hi
  rw [if_neg hn] at e1
  rw [uX8_save]
  simp (disch := omega) only [eX8_save_0, eX8_save_1, eX8_save_4, eX8_save_7, eX8_save_9, eX8_save_10, eX8_save_11, eX8_save_14, eX8_save_15, eX8_save_16, eX8_save_17, eX8_save_18n, eX8_save_18r, eX8_save_21, eX8_save_22, eX8_save_23, eX8_save_26, eX8_save_29, eX8_save_30, eX8_save_33, eX8_save_34, eX8_save_35, eX8_save_36, eX8_save_37, eX8_save_40, eX8_save_43, eX8_save_46, if_pos, if_neg, if_true, if_false, Option.bind_some, Option.toList_some, Option.toList_none, List.cons_append, List.nil_append, e1]
theorem s_save {i : Nat} (h : XIs S A m H K V P n) (hi : i < 2) : ∃ S', fX8_save [vR 0, vI (i : Int)] S = some (some (vI (sumR A)), S') ∧ XIs S' A m H (up K i 1) (fun j => if j = i then A else V j) P n ∧ (∀ a, 593 ≤ a → S' a = S a) := by
  obtain ⟨h1, h2, h3, h4, h5, h6⟩ := h
  obtain ⟨-, -, -, k67, a67, k68, a68⟩ := rk
  have e1 := s_isSlot (S := S) (i := (i : Int)) ⟨by omega, by omega⟩
  rw [if_pos (by omega)] at e1
  have hs := scns hi
  obtain ⟨ks, -⟩ := id hs
  have r4 : S (465 + 64 * i + 15) 0 = 4 := by
    have := h5.2 (i + 6) (by omega)
    rw [show 96 + 64 * (i + 6) = 465 + 64 * i + 15 by omega] at this
    exact this
  obtain ⟨T1, e2, t1, t2⟩ := s_sceneCopy hs scn0 (by omega) r4 h1
  have e3 := rf67 i hi
  have hv := scn0.2.2.1
  obtain ⟨v0, -⟩ := id hv
  obtain ⟨k0, -⟩ := scn0
  have fr : ∀ a, a ≠ 68 → (a < 465 + 64 * i ∨ 465 + 64 * i + 64 ≤ a) → updM T1 68 i 1 a = S a := fun a y1 y2 => by rw [updM_ne y1, t2 a y2]
  have hN : SceneIs (updM T1 68 i 1) 1 A := h1.rows (fun a _ _ => fr a (by omega) (by omega))
  have e4 := s_stones (S := updM T1 68 i 1) hv hN.2.2.1
  refine ⟨updM T1 68 i 1, ?_, ⟨hN, h2.keep (fr _ (by omega) (by omega)) (fr _ (by omega) (by omega)), ?_, fun j hj => ?_, ⟨by rw [fr 16 (by omega) (by omega)]; exact h5.1, fun j hj => ?_⟩, h6.row (by rw [fr 69 (by omega) (by omega)]) (fr 70 (by omega) (by omega))⟩, fun a ha => fr a (by omega) (by omega)⟩
  · rw [uX8_save]
    simp (disch := omega) only [eX8_save_0, eX8_save_1, eX8_save_4, eX8_save_7, eX8_save_9, eX8_save_10, eX8_save_11, eX8_save_14, eX8_save_15, eX8_save_16, eX8_save_17, eX8_save_18n, eX8_save_18r, eX8_save_21, eX8_save_22, eX8_save_23, eX8_save_26, eX8_save_29, eX8_save_30, eX8_save_33, eX8_save_34, eX8_save_35, eX8_save_36, eX8_save_37, eX8_save_40, eX8_save_43, eX8_save_46, if_pos, if_neg, if_true, if_false, Option.bind_some, Option.toList_some, Option.toList_none, List.cons_append, List.nil_append, e1, Int.toNat_natCast, e3, e2, e4]
    rfl
  · obtain ⟨g1, g2, g3, g4, g5⟩ := h3
    have e := fr 66 (by omega) (by omega)
    refine ⟨by rw [e]; exact g1, by rw [e]; exact g2, by rw [e]; exact g3, g4, fun j hj => ?_⟩
    rw [e]
    have hlt : ((S 66 1).toNat + 6 - m + j) % 6 < 6 := Nat.mod_lt _ (by omega)
    exact (g5 j hj).rows (fun a q1 q2 => fr a (by omega) (by omega))
  · obtain ⟨g1, g2, g3⟩ := h4 j hj
    rw [updM_eq]
    by_cases c : j = i
    · rw [c, up_eq, up_eq]
      refine ⟨rfl, Or.inr rfl, fun _ => ?_⟩
      simp only [if_pos]
      exact t1.rows (fun a q1 q2 => updM_ne (by omega))
    · rw [up_ne c, up_ne c, t2 68 (by omega)]
      refine ⟨g1, g2, fun q => ?_⟩
      simp only [if_neg c]
      exact (g3 q).rows (fun a q1 q2 => fr a (by omega) (by omega))
  · by_cases c : j = i + 6
    · rw [c, updM_ne (by omega)]
      have := t1.2.2.2.1.1
      rw [show 465 + 64 * i + 13 + 2 = 96 + 64 * (i + 6) by omega] at this
      exact this
    · rw [fr _ (by omega) (by omega)]
      exact h5.2 j hj
theorem s_restoreX {i : Int} (hi : rng i) (hn : ¬ (0 ≤ i ∧ i ≤ 1)) : fX8_restore [vR 0, vI i] S = some (some (vI (-2)), S) := by
  have e1 := s_isSlot (S := S) hi
  rw [if_neg hn] at e1
  rw [uX8_restore]
  simp (disch := omega) only [eX8_restore_0, eX8_restore_1, eX8_restore_4, eX8_restore_7, eX8_restore_9, eX8_restore_10, eX8_restore_11, eX8_restore_14, eX8_restore_15, eX8_restore_16, eX8_restore_19, eX8_restore_21, eX8_restore_22, eX8_restore_23, eX8_restore_26, eX8_restore_27, eX8_restore_30, eX8_restore_31, eX8_restore_34, eX8_restore_35, eX8_restore_36, eX8_restore_39, eX8_restore_40, eX8_restore_43, eX8_restore_46, eX8_restore_49, if_pos, if_neg, if_true, if_false, Option.bind_some, Option.toList_some, Option.toList_none, List.cons_append, List.nil_append, e1]
theorem s_restoreN {i : Nat} (h : XIs S A m H K V P n) (hi : i < 2) (hk : K i = 0) : fX8_restore [vR 0, vI (i : Int)] S = some (some (vI (-5)), S) := by
  obtain ⟨-, -, -, k67, a67, k68, a68⟩ := rk
  have e1 := s_isSlot (S := S) (i := (i : Int)) ⟨by omega, by omega⟩
  rw [if_pos (by omega)] at e1
  have e2 := (h.2.2.2.1 i hi).1
  rw [hk] at e2
  rw [uX8_restore]
  simp (disch := omega) only [eX8_restore_0, eX8_restore_1, eX8_restore_4, eX8_restore_7, eX8_restore_9, eX8_restore_10, eX8_restore_11, eX8_restore_14, eX8_restore_15, eX8_restore_16, eX8_restore_19, eX8_restore_21, eX8_restore_22, eX8_restore_23, eX8_restore_26, eX8_restore_27, eX8_restore_30, eX8_restore_31, eX8_restore_34, eX8_restore_35, eX8_restore_36, eX8_restore_39, eX8_restore_40, eX8_restore_43, eX8_restore_46, eX8_restore_49, if_pos, if_neg, if_true, if_false, Option.bind_some, Option.toList_some, Option.toList_none, List.cons_append, List.nil_append, e1, Int.toNat_natCast, e2]
theorem s_restore {i : Nat} (h : XIs S A m H K V P n) (hi : i < 2) (hk : K i = 1) : ∃ S', fX8_restore [vR 0, vI (i : Int)] S = some (some (vI (sumR (V i))), S') ∧ XIs S' (V i) (mM m) (mH m H A) K V P n ∧ (∀ a, 593 ≤ a → S' a = S a) := by
  obtain ⟨-, -, -, k67, a67, k68, a68⟩ := rk
  have e1 := s_isSlot (S := S) (i := (i : Int)) ⟨by omega, by omega⟩
  rw [if_pos (by omega)] at e1
  have e2 := (h.2.2.2.1 i hi).1
  rw [hk] at e2
  obtain ⟨S1, e4, h1, f1⟩ := s_remember h
  have hs := scns hi
  obtain ⟨k0, -⟩ := scn0
  obtain ⟨T1, e5, t1, t2⟩ := s_sceneCopy scn0 hs (by omega) h1.2.2.2.2.1.1 ((h1.2.2.2.1 i hi).2.2 hk)
  have e3 := rf67 i hi
  have hv := scn0.2.2.1
  obtain ⟨v0, -⟩ := id hv
  have e6 := s_stones (S := T1) hv t1.2.2.1
  refine ⟨T1, ?_, h1.now t1 (fun a ha => t2 a (by omega)), fun a ha => by rw [t2 a (by omega), f1 a ha]⟩
  rw [uX8_restore]
  simp (disch := omega) only [eX8_restore_0, eX8_restore_1, eX8_restore_4, eX8_restore_7, eX8_restore_9, eX8_restore_10, eX8_restore_11, eX8_restore_14, eX8_restore_15, eX8_restore_16, eX8_restore_19, eX8_restore_21, eX8_restore_22, eX8_restore_23, eX8_restore_26, eX8_restore_27, eX8_restore_30, eX8_restore_31, eX8_restore_34, eX8_restore_35, eX8_restore_36, eX8_restore_39, eX8_restore_40, eX8_restore_43, eX8_restore_46, eX8_restore_49, if_pos, if_neg, if_true, if_false, Option.bind_some, Option.toList_some, Option.toList_none, List.cons_append, List.nil_append, e1, Int.toNat_natCast, e2, e4, e3, e5, e6]
  rfl
end ROOT2
