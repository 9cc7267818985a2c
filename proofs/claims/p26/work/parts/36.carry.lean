/-! carrying a text out -/
def lyF (w t : Int) : Nat → (Nat → Int) → Int → Bool × (Nat → Int)
  | 0, A, _ => (true, A)
  | f + 1, A, key => if errLay A w key t < 0 then (false, A) else lyF w t f (mLay A w key t) (key + 1)
def crL (w : Int) : List (Int × Int × Int) → (Nat → Int) → Bool × (Nat → Int)
  | [], A => (true, A)
  | x :: l, A => if (lyF w x.2.2 (x.2.1 - x.1 + 1).toNat A x.1).1 = true then crL w l (lyF w x.2.2 (x.2.1 - x.1 + 1).toNat A x.1).2 else (false, (lyF w x.2.2 (x.2.1 - x.1 + 1).toNat A x.1).2)
def crO (o : Int × Int × List (Int × Int × Int)) (A : Nat → Int) : Bool × (Nat → Int) :=
  if o.1 = 115 then crL o.2.1 o.2.2 A
  else if o.1 = 102 then (if errFl o.2.1 (o.2.2.headD (0, 0, 0)).1 (o.2.2.headD (0, 0, 0)).2.1 < 0 then (false, A) else (true, mTake A o.2.1 (o.2.2.headD (0, 0, 0)).1 (o.2.2.headD (0, 0, 0)).2.1))
  else if o.1 = 100 then (if errDry A < 0 then (false, A) else (true, mDry A))
  else if o.1 = 103 then (true, mBegin A)
  else if A 4 = 1 then (true, mLeap A (RA A)) else (false, A)
def crT : List (Int × Int × List (Int × Int × Int)) → (Nat → Int) → Nat × (Nat → Int)
  | [], A => (0, A)
  | o :: l, A => if (crO o A).1 = true then ((crT l (crO o A).2).1 + 1, (crT l (crO o A).2).2) else (0, (crO o A).2)
section CO
variable {S S' : MM} {A A' : Nat → Int} {P : Nat → Int} {n : Nat}
theorem l_layR {w a b t : Int} (hw : 0 ≤ w ∧ w ≤ 2) (hb : 0 ≤ b ∧ b ≤ 299) (ht : 1 ≤ t ∧ t ≤ 9) : ∀ (f : Nat) (key : Int) (A : Nat → Int) (S : MM), f = (b - key + 1).toNat → (0 ≤ key ∧ key ≤ 300) → SceneIs S 1 A → ∃ S', rn xX8_layRange (3, [some (vR 0), some (vI w), some (vI a), some (vI b), some (vI t), some (vI key)], [], S) = some (some (vI (if (lyF w t f A key).1 = true then 1 else 0)), S') ∧ SceneIs S' 1 (lyF w t f A key).2 ∧ (∀ c, c < 1 ∨ 65 ≤ c → S' c = S c) := by
  intro f
  induction f with
  | zero =>
    intro key A S hf hk h
    refine ⟨S, ?_, h, fun _ _ => rfl⟩
    rw [eX8_layRange_3, lyF, if_pos rfl]
    simp (disch := omega) only [eX8_layRange_0, eX8_layRange_1, eX8_layRange_5, eX8_layRange_6, eX8_layRange_9, eX8_layRange_11, eX8_layRange_14, eX8_layRange_17, eX8_layRange_18, eX8_layRange_21, eX8_layRange_22, eX8_layRange_24, eX8_layRange_26, eX8_layRange_29, eX8_layRange_32, eX8_layRange_33, eX8_layRange_34, eX8_layRange_35, eX8_layRange_38, eX8_layRange_39, eX8_layRange_41, eX8_layRange_43, eX8_layRange_46, eX8_layRange_47, eX8_layRange_50, eX8_layRange_53, eX8_layRange_54, if_pos, if_neg, if_true, if_false, Option.bind_some, Option.toList_some, Option.toList_none, List.cons_append, List.nil_append]
  | succ f ih =>
    intro key A S hf hk h
    obtain ⟨k0, -⟩ := scn0
    have e1 := s_errorOfLaying (S := S) (w := w) (key := key) (t := t) scn0 h.2.2.1 ⟨by omega, by omega⟩ ⟨by omega, by omega⟩ ⟨by omega, by omega⟩
    rw [lyF, eX8_layRange_3]
    rcases errLay_v (A := A) (w := w) (key := key) (t := t) with ⟨z, q1, q2, q3, q4⟩ | ⟨z, z2⟩
    · have hz : ¬ errLay A w key t < 0 := by omega
      rw [if_neg hz]
      rw [z] at e1
      obtain ⟨T, e2, g1, g2⟩ := s_lay scn0 h q1 q2 q3 q4
      obtain ⟨S', w1, w2, w3⟩ := ih (key + 1) (mLay A w key t) T (by omega) (by omega) g1
      refine ⟨S', ?_, w2, fun c hc => by rw [w3 c hc, g2 c (by omega)]⟩
      rw [← w1]
      simp (disch := omega) only [eX8_layRange_0, eX8_layRange_1, eX8_layRange_5, eX8_layRange_6, eX8_layRange_9, eX8_layRange_11, eX8_layRange_14, eX8_layRange_17, eX8_layRange_18, eX8_layRange_21, eX8_layRange_22, eX8_layRange_24, eX8_layRange_26, eX8_layRange_29, eX8_layRange_32, eX8_layRange_33, eX8_layRange_34, eX8_layRange_35, eX8_layRange_38, eX8_layRange_39, eX8_layRange_41, eX8_layRange_43, eX8_layRange_46, eX8_layRange_47, eX8_layRange_50, eX8_layRange_53, eX8_layRange_54, if_pos, if_neg, if_true, if_false, Option.bind_some, Option.toList_some, Option.toList_none, List.cons_append, List.nil_append, e1, e2]
    · rw [if_pos z, if_neg (fun q => ft q)]
      refine ⟨S, ?_, h, fun _ _ => rfl⟩
      simp (disch := omega) only [eX8_layRange_0, eX8_layRange_1, eX8_layRange_5, eX8_layRange_6, eX8_layRange_9, eX8_layRange_11, eX8_layRange_14, eX8_layRange_17, eX8_layRange_18, eX8_layRange_21, eX8_layRange_22, eX8_layRange_24, eX8_layRange_26, eX8_layRange_29, eX8_layRange_32, eX8_layRange_33, eX8_layRange_34, eX8_layRange_35, eX8_layRange_38, eX8_layRange_39, eX8_layRange_41, eX8_layRange_43, eX8_layRange_46, eX8_layRange_47, eX8_layRange_50, eX8_layRange_53, eX8_layRange_54, if_pos, if_neg, if_true, if_false, Option.bind_some, Option.toList_some, Option.toList_none, List.cons_append, List.nil_append, e1]
theorem s_layRange {w a b t : Int} (hw : 0 ≤ w ∧ w ≤ 2) (ha : 0 ≤ a ∧ a ≤ 299) (hb : 0 ≤ b ∧ b ≤ 299) (ht : 1 ≤ t ∧ t ≤ 9) (h : SceneIs S 1 A) : ∃ S', fX8_layRange [vR 0, vI w, vI a, vI b, vI t] S = some (some (vI (if (lyF w t (b - a + 1).toNat A a).1 = true then 1 else 0)), S') ∧ SceneIs S' 1 (lyF w t (b - a + 1).toNat A a).2 ∧ (∀ c, c < 1 ∨ 65 ≤ c → S' c = S c) := by
  obtain ⟨S', w1, w2⟩ := l_layR (a := a) hw hb ht _ a A S rfl (by omega) h
  refine ⟨S', ?_, w2⟩
  rw [← w1, uX8_layRange]
  simp (disch := omega) only [eX8_layRange_0, eX8_layRange_1, eX8_layRange_5, eX8_layRange_6, eX8_layRange_9, eX8_layRange_11, eX8_layRange_14, eX8_layRange_17, eX8_layRange_18, eX8_layRange_21, eX8_layRange_22, eX8_layRange_24, eX8_layRange_26, eX8_layRange_29, eX8_layRange_32, eX8_layRange_33, eX8_layRange_34, eX8_layRange_35, eX8_layRange_38, eX8_layRange_39, eX8_layRange_41, eX8_layRange_43, eX8_layRange_46, eX8_layRange_47, eX8_layRange_50, eX8_layRange_53, eX8_layRange_54, if_pos, if_neg, if_true, if_false, Option.bind_some, Option.toList_some, Option.toList_none, List.cons_append, List.nil_append]
theorem g_walker : fX2_walker [vR 69] S = some (some (vI (S 69 4)), S) := by
  have k0 := k69
  rw [uX2_walker]
  simp (disch := omega) only [eX2_walker_0, eX2_walker_1, eX2_walker_4, if_pos, if_neg, if_true, if_false, Option.bind_some, Option.toList_some, Option.toList_none, List.cons_append, List.nil_append]
theorem g_from : fX2_from [vR 69] S = some (some (vI (S 69 5)), S) := by
  have k0 := k69
  rw [uX2_from]
  simp (disch := omega) only [eX2_from_0, eX2_from_1, eX2_from_4, if_pos, if_neg, if_true, if_false, Option.bind_some, Option.toList_some, Option.toList_none, List.cons_append, List.nil_append]
theorem g_to : fX2_to [vR 69] S = some (some (vI (S 69 6)), S) := by
  have k0 := k69
  rw [uX2_to]
  simp (disch := omega) only [eX2_to_0, eX2_to_1, eX2_to_4, if_pos, if_neg, if_true, if_false, Option.bind_some, Option.toList_some, Option.toList_none, List.cons_append, List.nil_append]
theorem g_repeats : fX2_repeats [vR 69] S = some (some (vI (S 69 7)), S) := by
  have k0 := k69
  rw [uX2_repeats]
  simp (disch := omega) only [eX2_repeats_0, eX2_repeats_1, eX2_repeats_4, if_pos, if_neg, if_true, if_false, Option.bind_some, Option.toList_some, Option.toList_none, List.cons_append, List.nil_append]
theorem g_kind (h : 0 ≤ S 69 3 ∧ S 69 3 ≤ 126) : fX2_kind [vR 69] S = some (some (vI (S 69 3)), S) := by
  have k0 := k69
  rw [uX2_kind]
  simp (disch := omega) only [eX2_kind_0, eX2_kind_1, eX2_kind_4, if_pos, if_neg, if_true, if_false, Option.bind_some, Option.toList_some, Option.toList_none, List.cons_append, List.nil_append]
theorem l_carryS {w : Int} (hw : 0 ≤ w ∧ w ≤ 2) : ∀ (f i : Nat) (S : MM) (p : Nat) (A : Nat → Int), i + f = 80 → TX S P n → S 69 2 = (p : Int) → p ≤ n → S 69 4 = w → SceneIs S 1 A → (Lst P n f p).1 = true → ∃ S', rn xX8_carryStones (2, [some (vR 0), some (vI i)], [], S) = some (some (vI (if (crL w (Lst P n f p).2.2 A).1 = true then 1 else 0)), S') ∧ SceneIs S' 1 (crL w (Lst P n f p).2.2 A).2 ∧ ((crL w (Lst P n f p).2.2 A).1 = true → S' 69 2 = ((Lst P n f p).2.1 : Int)) ∧ S' 69 1 = S 69 1 ∧ (∀ c, c ≠ 69 → c < 1 ∨ 65 ≤ c → S' c = S c) := by
  intro f
  induction f with
  | zero => intro i S p A _ _ _ _ _ _ hok; exact ft hok
  | succ f ih =>
    intro i S p A hi hT hp hpn h4 h hok
    have k0 := k69
    have hn8 := hT.2.1
    obtain ⟨b, T, e1, t1, t2, t3, t4, t5⟩ := s_readStones hT hp (by omega)
    obtain ⟨g1, g2, g3⟩ := St_b (P := P) hpn
    rw [Lst] at hok ⊢
    rw [eX8_carryStones_2]
    by_cases c : (St P n p).1 = true
    · rw [if_pos c] at hok ⊢
      obtain ⟨b1, f5, f6, f7⟩ := t2 c
      subst b1
      obtain ⟨g4, g5, g6, g7, g8⟩ := g3 c
      have f4 : T 69 4 = w := by rw [t4 4 (by omega) (by omega) (by omega) (by omega)]; exact h4
      have hT1 : TX T P n := hT.row (t4 1 (by omega) (by omega) (by omega) (by omega)) (t5 70 (by omega))
      have f1 : T 69 1 = S 69 1 := t4 1 (by omega) (by omega) (by omega) (by omega)
      have c4 := g_walker (S := T)
      have c5 := g_from (S := T)
      have c6 := g_to (S := T)
      have c7 := g_repeats (S := T)
      rw [f4] at c4
      rw [f5] at c5
      rw [f6] at c6
      rw [f7] at c7
      obtain ⟨U, e2, u1, u2⟩ := s_layRange (w := w) (a := (St P n p).2.2.1) (b := (St P n p).2.2.2.1) (t := (St P n p).2.2.2.2) hw g6 g7 g8 (h.rows (fun a _ _ => t5 a (by omega)))
      have hTU : TX U P n := hT1.row (by rw [u2 69 (by omega)]) (u2 70 (by omega))
      have hpU : U 69 2 = ((St P n p).2.1 : Int) := by rw [u2 69 (by omega)]; exact t1
      have e3 := s_pass hTU hpU (by omega) (c := 44) (by omega)
      have fr : ∀ c, c ≠ 69 → c < 1 ∨ 65 ≤ c → U c = S c := fun c y1 y2 => by rw [u2 c y2, t5 c y1]
      by_cases ok : (lyF w (St P n p).2.2.2.2 ((St P n p).2.2.2.1 - (St P n p).2.2.1 + 1).toNat A (St P n p).2.2.1).1 = true
      · rw [if_pos ok] at e2
        by_cases d : nx P n (St P n p).2.1 = 44
        · rw [if_pos d] at e3 hok ⊢
          have hq := nx_in2 d (by omega)
          obtain ⟨S', w1, w2, w3, w4, w5⟩ := ih (i + 1) (updM U 69 2 (((St P n p).2.1 + 1 : Nat) : Int)) ((St P n p).2.1 + 1) _ (by omega) (hTU.up (by omega)) (by rw [updM_eq, up_eq]) (by omega) (by rw [updM_eq, up_ne (by omega), u2 69 (by omega)]; exact f4) (u1.rows (fun a _ _ => updM_ne (by omega))) hok
          have hc : crL w ((St P n p).2.2 :: (Lst P n f ((St P n p).2.1 + 1)).2.2) A = crL w (Lst P n f ((St P n p).2.1 + 1)).2.2 (lyF w (St P n p).2.2.2.2 ((St P n p).2.2.2.1 - (St P n p).2.2.1 + 1).toNat A (St P n p).2.2.1).2 := by rw [crL, if_pos ok]
          show ∃ S', _ = some (some (vI (if (crL w ((St P n p).2.2 :: (Lst P n f ((St P n p).2.1 + 1)).2.2) A).1 = true then 1 else 0)), S') ∧ SceneIs S' 1 (crL w ((St P n p).2.2 :: (Lst P n f ((St P n p).2.1 + 1)).2.2) A).2 ∧ ((crL w ((St P n p).2.2 :: (Lst P n f ((St P n p).2.1 + 1)).2.2) A).1 = true → S' 69 2 = ((Lst P n f ((St P n p).2.1 + 1)).2.1 : Int)) ∧ _
          rw [hc]
          refine ⟨S', ?_, w2, w3, by rw [w4, updM_eq, up_ne (by omega), u2 69 (by omega), f1], fun c y1 y2 => by rw [w5 c y1 y2, updM_ne y1, fr c y1 y2]⟩
          rw [← w1]
          simp (disch := omega) only [eX8_carryStones_0, eX8_carryStones_1, eX8_carryStones_3, eX8_carryStones_5, eX8_carryStones_8, eX8_carryStones_9, eX8_carryStones_12, eX8_carryStones_15, eX8_carryStones_18, eX8_carryStones_19, eX8_carryStones_20, eX8_carryStones_23, eX8_carryStones_26, eX8_carryStones_27, eX8_carryStones_30, eX8_carryStones_33, eX8_carryStones_34, eX8_carryStones_37, eX8_carryStones_40, eX8_carryStones_41, eX8_carryStones_44, eX8_carryStones_47, eX8_carryStones_50, eX8_carryStones_53, eX8_carryStones_54, eX8_carryStones_55, eX8_carryStones_56, eX8_carryStones_59, eX8_carryStones_61, eX8_carryStones_64, eX8_carryStones_67, eX8_carryStones_68, eX8_carryStones_69, eX8_carryStones_72, eX8_carryStones_75, eX8_carryStones_76, if_pos, if_neg, if_true, if_false, Option.bind_some, Option.toList_some, Option.toList_none, List.cons_append, List.nil_append, e1, c4, c5, c6, c7, e2, e3]
          rw [show ((i : Int) + 1) = ((i + 1 : Nat) : Int) by omega]
        · rw [if_neg d] at e3 ⊢
          have hc : crL w [(St P n p).2.2] A = (true, (lyF w (St P n p).2.2.2.2 ((St P n p).2.2.2.1 - (St P n p).2.2.1 + 1).toNat A (St P n p).2.2.1).2) := by rw [crL, if_pos ok, crL]
          show ∃ S', _ = some (some (vI (if (crL w [(St P n p).2.2] A).1 = true then 1 else 0)), S') ∧ SceneIs S' 1 (crL w [(St P n p).2.2] A).2 ∧ ((crL w [(St P n p).2.2] A).1 = true → S' 69 2 = ((St P n p).2.1 : Int)) ∧ _
          rw [hc, if_pos rfl]
          refine ⟨U, ?_, u1, fun _ => hpU, by rw [u2 69 (by omega), f1], fr⟩
          simp (disch := omega) only [eX8_carryStones_0, eX8_carryStones_1, eX8_carryStones_3, eX8_carryStones_5, eX8_carryStones_8, eX8_carryStones_9, eX8_carryStones_12, eX8_carryStones_15, eX8_carryStones_18, eX8_carryStones_19, eX8_carryStones_20, eX8_carryStones_23, eX8_carryStones_26, eX8_carryStones_27, eX8_carryStones_30, eX8_carryStones_33, eX8_carryStones_34, eX8_carryStones_37, eX8_carryStones_40, eX8_carryStones_41, eX8_carryStones_44, eX8_carryStones_47, eX8_carryStones_50, eX8_carryStones_53, eX8_carryStones_54, eX8_carryStones_55, eX8_carryStones_56, eX8_carryStones_59, eX8_carryStones_61, eX8_carryStones_64, eX8_carryStones_67, eX8_carryStones_68, eX8_carryStones_69, eX8_carryStones_72, eX8_carryStones_75, eX8_carryStones_76, if_pos, if_neg, if_true, if_false, Option.bind_some, Option.toList_some, Option.toList_none, List.cons_append, List.nil_append, e1, c4, c5, c6, c7, e2, e3]
      · rw [if_neg ok] at e2
        have hgen : ∀ l : List (Int × Int × Int), crL w ((St P n p).2.2 :: l) A = (false, (lyF w (St P n p).2.2.2.2 ((St P n p).2.2.2.1 - (St P n p).2.2.1 + 1).toNat A (St P n p).2.2.1).2) := fun l => by rw [crL, if_neg ok]
        have hrun : rn xX8_carryStones (3, [some (vR 0), some (vI i)], [vI i], S) = some (some (vI 0), U) := by
          simp (disch := omega) only [eX8_carryStones_0, eX8_carryStones_1, eX8_carryStones_3, eX8_carryStones_5, eX8_carryStones_8, eX8_carryStones_9, eX8_carryStones_12, eX8_carryStones_15, eX8_carryStones_18, eX8_carryStones_19, eX8_carryStones_20, eX8_carryStones_23, eX8_carryStones_26, eX8_carryStones_27, eX8_carryStones_30, eX8_carryStones_33, eX8_carryStones_34, eX8_carryStones_37, eX8_carryStones_40, eX8_carryStones_41, eX8_carryStones_44, eX8_carryStones_47, eX8_carryStones_50, eX8_carryStones_53, eX8_carryStones_54, eX8_carryStones_55, eX8_carryStones_56, eX8_carryStones_59, eX8_carryStones_61, eX8_carryStones_64, eX8_carryStones_67, eX8_carryStones_68, eX8_carryStones_69, eX8_carryStones_72, eX8_carryStones_75, eX8_carryStones_76, if_pos, if_neg, if_true, if_false, Option.bind_some, Option.toList_some, Option.toList_none, List.cons_append, List.nil_append, e1, c4, c5, c6, c7, e2]
        by_cases d : nx P n (St P n p).2.1 = 44
        · rw [if_pos d]
          show ∃ S', _ = some (some (vI (if (crL w ((St P n p).2.2 :: (Lst P n f ((St P n p).2.1 + 1)).2.2) A).1 = true then 1 else 0)), S') ∧ SceneIs S' 1 (crL w ((St P n p).2.2 :: (Lst P n f ((St P n p).2.1 + 1)).2.2) A).2 ∧ ((crL w ((St P n p).2.2 :: (Lst P n f ((St P n p).2.1 + 1)).2.2) A).1 = true → S' 69 2 = ((Lst P n f ((St P n p).2.1 + 1)).2.1 : Int)) ∧ _
          rw [hgen, if_neg (fun q => ft q)]
          exact ⟨U, hrun, u1, fun q => ft q, by rw [u2 69 (by omega), f1], fr⟩
        · rw [if_neg d]
          show ∃ S', _ = some (some (vI (if (crL w [(St P n p).2.2] A).1 = true then 1 else 0)), S') ∧ SceneIs S' 1 (crL w [(St P n p).2.2] A).2 ∧ ((crL w [(St P n p).2.2] A).1 = true → S' 69 2 = ((St P n p).2.1 : Int)) ∧ _
          rw [hgen, if_neg (fun q => ft q)]
          exact ⟨U, hrun, u1, fun q => ft q, by rw [u2 69 (by omega), f1], fr⟩
    · rw [if_neg c] at hok
      exact ft hok
end CO
