/-! the reference: carrying out -/
section MO26
variable {S S' S1 S2 : MM} {A : Nat → Int} {m n : Nat} {H : Nat → Nat → Int} {K P : Nat → Int} {V : Nat → Nat → Int}
/-- a row that some state of the class holds -/
def AI (A : Nat → Int) : Prop := ∃ S0 : MM, SceneIs S0 1 A ∧ TNS S0
theorem AI.ok (h : AI A) : AOk A := by
  obtain ⟨S0, h1, h2⟩ := h
  exact h1.ok
theorem TNS.fr (h : TNS S) (f : ∀ c, c < 1 ∨ 1 + 64 ≤ c → S' c = S c) : TNS S' := h.keep (f 602 (by omega)) (f 604 (by omega))
theorem AI.lay {w key t : Int} (h : AI A) (he : errLay A w key t = 0) : AI (mLay A w key t) := by
  obtain ⟨S0, h1, h2⟩ := h
  obtain ⟨q1, q2, q3, q4⟩ : (0 ≤ w ∧ w ≤ 2) ∧ (0 ≤ key ∧ key ≤ 299) ∧ (1 ≤ t ∧ t ≤ 9) ∧ (cnt (RA A w.toNat) 300 < 40 ∨ 0 < RA A w.toNat key.toNat) := by
    rcases errLay_v (A := A) (w := w) (key := key) (t := t) with y | y
    · exact y.2
    · omega
  obtain ⟨T, -, e, f⟩ := s_lay scn0 h1 q1 q2 q3 q4
  exact ⟨T, e, h2.fr f⟩
theorem AI.take {w a b : Int} (h : AI A) (he : errFl w a b = 0) : AI (mTake A w a b) := by
  obtain ⟨S0, h1, h2⟩ := h
  obtain ⟨q1, q2, q3⟩ : (w = -6 ∨ (0 ≤ w ∧ w ≤ 2)) ∧ (0 ≤ a ∧ a ≤ 299) ∧ a ≤ b ∧ b ≤ 299 := by
    rcases errFl_v (w := w) (a := a) (b := b) with y | y
    · exact y.2
    · omega
  obtain ⟨T, -, e, f⟩ := s_takeAway scn0 h1 q2 q3 q1
  exact ⟨T, e, h2.fr f⟩
theorem AI.dry (h : AI A) (he : errDry A = 0) : AI (mDry A) := by
  obtain ⟨S0, h1, h2⟩ := h
  obtain ⟨T, -, e, f⟩ := s_giveBack scn0 h1 he
  exact ⟨T, e, h2.fr f⟩
theorem AI.begin (h : AI A) : AI (mBegin A) := by
  obtain ⟨S0, h1, h2⟩ := h
  obtain ⟨T, -, e, f⟩ := s_scStart scn0 h1 h2 (by omega)
  exact ⟨T, e, h2.fr f⟩
theorem AI.leap (h : AI A) (h4 : A 4 = 1) : AI (mLeap A (RA A)) := by
  obtain ⟨S0, h1, h2⟩ := h
  obtain ⟨T, -, e, f⟩ := s_scStep scn0 h1 h2 (by omega) h4
  exact ⟨T, e, h2.fr f⟩
abbrev PC : Type := Int × Int × Int × Int × Int × Int
def crP (q : PC) (A : Nat → Int) : Bool × (Nat → Int) :=
  if q.1 = 115 then lyF q.2.2.1 q.2.2.2.2.2 (q.2.2.2.2.1 - q.2.2.2.1 + 1).toNat A q.2.2.2.1
  else if q.1 = 102 then (if errFl q.2.2.1 q.2.2.2.1 q.2.2.2.2.1 < 0 then (false, A) else (true, mTake A q.2.2.1 q.2.2.2.1 q.2.2.2.2.1))
  else if q.1 = 100 then (if errDry A < 0 then (false, A) else (true, mDry A))
  else if q.1 = 103 then (true, mBegin A)
  else if A 4 = 1 then (true, mLeap A (RA A)) else (false, A)
def crPs : List PC → (Nat → Int) → Bool × (Nat → Int)
  | [], A => (true, A)
  | q :: l, A => if (crP q A).1 = true then crPs l (crP q A).2 else (false, (crP q A).2)
def PW (q : PC) : Prop := (q.1 = 115 ∧ (0 ≤ q.2.2.1 ∧ q.2.2.1 ≤ 2) ∧ (0 ≤ q.2.2.2.1 ∧ q.2.2.2.1 ≤ 299) ∧ (0 ≤ q.2.2.2.2.1 ∧ q.2.2.2.2.1 ≤ 299) ∧ (1 ≤ q.2.2.2.2.2 ∧ q.2.2.2.2.2 ≤ 9)) ∨ (q.1 = 102 ∧ (q.2.2.1 = -6 ∨ (0 ≤ q.2.2.1 ∧ q.2.2.1 ≤ 2)) ∧ (0 ≤ q.2.2.2.1 ∧ q.2.2.2.1 ≤ 299) ∧ (0 ≤ q.2.2.2.2.1 ∧ q.2.2.2.2.1 ≤ 299)) ∨ q.1 = 100 ∨ q.1 = 103 ∨ q.1 = 108
theorem crPs_st {i w : Int} : ∀ (l : List (Int × Int × Int)) (A : Nat → Int), crPs (stPc i w l) A = crL w l A := by
  intro l
  induction l with
  | nil => intro A; rfl
  | cons x l ih =>
    intro A
    show (if (lyF w x.2.2 (x.2.1 - x.1 + 1).toNat A x.1).1 = true then crPs (stPc i w l) (lyF w x.2.2 (x.2.1 - x.1 + 1).toNat A x.1).2 else (false, (lyF w x.2.2 (x.2.1 - x.1 + 1).toNat A x.1).2)) = crL w (x :: l) A
    rw [ih, crL]
theorem crPs_o {i : Int} {o : Int × Int × List (Int × Int × Int)} : crPs (pcs i o) A = crO o A := by
  unfold pcs crO
  by_cases c : o.1 = 115
  · rw [if_pos c, if_pos c]
    exact crPs_st _ _
  · rw [if_neg c, if_neg c]
    have one : ∀ q : PC, crPs [q] A = crP q A := fun q => by
      rw [crPs, crPs]
      by_cases y : (crP q A).1 = true
      · rw [if_pos y]
        exact Prod.ext y.symm rfl
      · rw [if_neg y]
        have z : (crP q A).1 = false := by
          revert y
          cases (crP q A).1
          · exact fun _ => rfl
          · exact fun y => absurd rfl y
        exact Prod.ext z.symm rfl
    by_cases d : o.1 = 102
    · rw [if_pos d, if_pos d, one]
      rfl
    · rw [if_neg d, if_neg d, one]
      unfold crP
      simp only
      rw [if_neg c, if_neg d]
/-! stones by a text -/
theorem l_carS {w a b t : Int} {k : Nat} (hk : k ≤ 41) (hw : 0 ≤ w ∧ w ≤ 2) (hb : 0 ≤ b ∧ b ≤ 299) (ht : 1 ≤ t ∧ t ≤ 9) : ∀ (f : Nat) (key v : Int) (A : Nat → Int) (S : MM), f = (b - key + 1).toNat → (0 ≤ key ∧ key ≤ 300) → (0 ≤ v ∧ v ≤ 9) → AI A → S 594 = A → (S 601 (6 * k + 2) = w ∧ S 601 (6 * k + 4) = b ∧ S 601 (6 * k + 5) = t) → ∃ (S' : MM) (r : Int), rn xX9_carryStones (11, [some (vR 593), some (vI (6 * (k : Int))), some (vI v), some (vI key)], [], S) = some (some (vI r), S') ∧ S' 594 = (lyF w t f A key).2 ∧ AI (lyF w t f A key).2 ∧ ((lyF w t f A key).1 = true → 0 ≤ r ∧ r ≤ 9) ∧ (¬ (lyF w t f A key).1 = true → r < 0 ∧ -4 ≤ r) ∧ (∀ c, c ≠ 594 → S' c = S c) := by
  obtain ⟨k9, -, -, k1, a1⟩ := k9_
  have x2 : ((6 : Int) * (k : Int) + 2).toNat = 6 * k + 2 := by omega
  have x4 : ((6 : Int) * (k : Int) + 4).toNat = 6 * k + 4 := by omega
  have x5 : ((6 : Int) * (k : Int) + 5).toNat = 6 * k + 5 := by omega
  intro f
  induction f with
  | zero =>
    intro key v A S hf hk2 hv hA h0 ⟨y2, y4, y5⟩
    refine ⟨S, v, ?_, h0, hA, fun _ => hv, fun y => absurd rfl y, fun _ _ => rfl⟩
    rw [eX9_carryStones_11]
    simp (disch := omega) only [eX9_carryStones_0, eX9_carryStones_1, eX9_carryStones_2, eX9_carryStones_3, eX9_carryStones_6, eX9_carryStones_7, eX9_carryStones_8, eX9_carryStones_9, eX9_carryStones_9x, eX9_carryStones_9y, eX9_carryStones_10, eX9_carryStones_12, eX9_carryStones_13, eX9_carryStones_16, eX9_carryStones_17, eX9_carryStones_18, eX9_carryStones_19, eX9_carryStones_19x, eX9_carryStones_19y, eX9_carryStones_20, eX9_carryStones_23, eX9_carryStones_24, eX9_carryStones_27, eX9_carryStones_28, eX9_carryStones_29, eX9_carryStones_32, eX9_carryStones_33, eX9_carryStones_34, eX9_carryStones_35, eX9_carryStones_35x, eX9_carryStones_35y, eX9_carryStones_36, eX9_carryStones_37, eX9_carryStones_38, eX9_carryStones_41, eX9_carryStones_42, eX9_carryStones_43, eX9_carryStones_44, eX9_carryStones_44x, eX9_carryStones_44y, eX9_carryStones_45, eX9_carryStones_48, eX9_carryStones_49, eX9_carryStones_50, eX9_carryStones_53, eX9_carryStones_54, eX9_carryStones_55, eX9_carryStones_58, eX9_carryStones_59, eX9_carryStones_60, eX9_carryStones_61, eX9_carryStones_61x, eX9_carryStones_61y, eX9_carryStones_62, eX9_carryStones_63, eX9_carryStones_64, eX9_carryStones_67, eX9_carryStones_68, eX9_carryStones_69, eX9_carryStones_70, eX9_carryStones_70x, eX9_carryStones_70y, eX9_carryStones_71, eX9_carryStones_74, eX9_carryStones_77, eX9_carryStones_80, eX9_carryStones_81, if_pos, if_neg, if_true, if_false, Option.bind_some, Option.toList_some, Option.toList_none, List.cons_append, List.nil_append, x4, y4]
  | succ f ih =>
    intro key v A S hf hk2 hv hA h0 ⟨y2, y4, y5⟩
    have ok := hA.ok
    have e1 := z_tryStone (S := S) (w := w) (key := key) (t := t) ⟨by omega, by omega⟩ ⟨by omega, by omega⟩ ⟨by omega, by omega⟩ (by rw [h0]; exact ok.2.2.2.1) (by rw [h0]; exact ok.2.2.2.2.1)
    rw [h0] at e1
    rw [lyF]
    rcases errLay_v (A := A) (w := w) (key := key) (t := t) with y | y
    · rw [if_pos y.1] at e1
      rw [if_neg (by omega)]
      obtain ⟨u, hu⟩ : ∃ u : Nat, w = (u : Int) := ⟨w.toNat, by omega⟩
      obtain ⟨j, hj⟩ : ∃ j : Nat, key = (j : Int) := ⟨key.toNat, by omega⟩
      have hb1 := ok.2.2.2.1 w.toNat key.toNat (by omega) (by omega)
      have e2 := z_lay (S := S) (w := u) (k := j) (t := t) (by omega) (by omega)
      rw [← hu, ← hj] at e2
      have el : updM S 594 (25 + 300 * u + j) t 594 = mLay A w key t := by
        rw [updM_eq, h0]
        unfold mLay
        rw [show w.toNat = u by omega, show key.toNat = j by omega]
      have e601 : updM S 594 (25 + 300 * u + j) t 601 = S 601 := updM_ne (by omega)
      obtain ⟨S', r, w1, w2, w3, w4, w5, w6⟩ := ih (key + 1) (RA A w.toNat key.toNat) (mLay A w key t) (updM S 594 (25 + 300 * u + j) t) (by omega) (by omega) hb1 (hA.lay y.1) el (by rw [e601]; exact ⟨y2, y4, y5⟩)
      refine ⟨S', r, ?_, w2, w3, w4, w5, fun c hc => by rw [w6 c hc, updM_ne hc]⟩
      rw [← w1, eX9_carryStones_11]
      simp (disch := omega) only [eX9_carryStones_0, eX9_carryStones_1, eX9_carryStones_2, eX9_carryStones_3, eX9_carryStones_6, eX9_carryStones_7, eX9_carryStones_8, eX9_carryStones_9, eX9_carryStones_9x, eX9_carryStones_9y, eX9_carryStones_10, eX9_carryStones_12, eX9_carryStones_13, eX9_carryStones_16, eX9_carryStones_17, eX9_carryStones_18, eX9_carryStones_19, eX9_carryStones_19x, eX9_carryStones_19y, eX9_carryStones_20, eX9_carryStones_23, eX9_carryStones_24, eX9_carryStones_27, eX9_carryStones_28, eX9_carryStones_29, eX9_carryStones_32, eX9_carryStones_33, eX9_carryStones_34, eX9_carryStones_35, eX9_carryStones_35x, eX9_carryStones_35y, eX9_carryStones_36, eX9_carryStones_37, eX9_carryStones_38, eX9_carryStones_41, eX9_carryStones_42, eX9_carryStones_43, eX9_carryStones_44, eX9_carryStones_44x, eX9_carryStones_44y, eX9_carryStones_45, eX9_carryStones_48, eX9_carryStones_49, eX9_carryStones_50, eX9_carryStones_53, eX9_carryStones_54, eX9_carryStones_55, eX9_carryStones_58, eX9_carryStones_59, eX9_carryStones_60, eX9_carryStones_61, eX9_carryStones_61x, eX9_carryStones_61y, eX9_carryStones_62, eX9_carryStones_63, eX9_carryStones_64, eX9_carryStones_67, eX9_carryStones_68, eX9_carryStones_69, eX9_carryStones_70, eX9_carryStones_70x, eX9_carryStones_70y, eX9_carryStones_71, eX9_carryStones_74, eX9_carryStones_77, eX9_carryStones_80, eX9_carryStones_81, if_pos, if_neg, if_true, if_false, Option.bind_some, Option.toList_some, Option.toList_none, List.cons_append, List.nil_append, x2, x4, x5, y2, y4, y5, e1, e2]
    · rw [if_neg (by omega)] at e1
      rw [if_pos y.1]
      refine ⟨S, errLay A w key t, ?_, h0, hA, fun y => ft y, fun _ => y, fun _ _ => rfl⟩
      rw [eX9_carryStones_11]
      simp (disch := omega) only [eX9_carryStones_0, eX9_carryStones_1, eX9_carryStones_2, eX9_carryStones_3, eX9_carryStones_6, eX9_carryStones_7, eX9_carryStones_8, eX9_carryStones_9, eX9_carryStones_9x, eX9_carryStones_9y, eX9_carryStones_10, eX9_carryStones_12, eX9_carryStones_13, eX9_carryStones_16, eX9_carryStones_17, eX9_carryStones_18, eX9_carryStones_19, eX9_carryStones_19x, eX9_carryStones_19y, eX9_carryStones_20, eX9_carryStones_23, eX9_carryStones_24, eX9_carryStones_27, eX9_carryStones_28, eX9_carryStones_29, eX9_carryStones_32, eX9_carryStones_33, eX9_carryStones_34, eX9_carryStones_35, eX9_carryStones_35x, eX9_carryStones_35y, eX9_carryStones_36, eX9_carryStones_37, eX9_carryStones_38, eX9_carryStones_41, eX9_carryStones_42, eX9_carryStones_43, eX9_carryStones_44, eX9_carryStones_44x, eX9_carryStones_44y, eX9_carryStones_45, eX9_carryStones_48, eX9_carryStones_49, eX9_carryStones_50, eX9_carryStones_53, eX9_carryStones_54, eX9_carryStones_55, eX9_carryStones_58, eX9_carryStones_59, eX9_carryStones_60, eX9_carryStones_61, eX9_carryStones_61x, eX9_carryStones_61y, eX9_carryStones_62, eX9_carryStones_63, eX9_carryStones_64, eX9_carryStones_67, eX9_carryStones_68, eX9_carryStones_69, eX9_carryStones_70, eX9_carryStones_70x, eX9_carryStones_70y, eX9_carryStones_71, eX9_carryStones_74, eX9_carryStones_77, eX9_carryStones_80, eX9_carryStones_81, if_pos, if_neg, if_true, if_false, Option.bind_some, Option.toList_some, Option.toList_none, List.cons_append, List.nil_append, x2, x4, x5, y2, y4, y5, e1]
      rw [eX9_carryStones_11]
      simp (disch := omega) only [eX9_carryStones_0, eX9_carryStones_1, eX9_carryStones_2, eX9_carryStones_3, eX9_carryStones_6, eX9_carryStones_7, eX9_carryStones_8, eX9_carryStones_9, eX9_carryStones_9x, eX9_carryStones_9y, eX9_carryStones_10, eX9_carryStones_12, eX9_carryStones_13, eX9_carryStones_16, eX9_carryStones_17, eX9_carryStones_18, eX9_carryStones_19, eX9_carryStones_19x, eX9_carryStones_19y, eX9_carryStones_20, eX9_carryStones_23, eX9_carryStones_24, eX9_carryStones_27, eX9_carryStones_28, eX9_carryStones_29, eX9_carryStones_32, eX9_carryStones_33, eX9_carryStones_34, eX9_carryStones_35, eX9_carryStones_35x, eX9_carryStones_35y, eX9_carryStones_36, eX9_carryStones_37, eX9_carryStones_38, eX9_carryStones_41, eX9_carryStones_42, eX9_carryStones_43, eX9_carryStones_44, eX9_carryStones_44x, eX9_carryStones_44y, eX9_carryStones_45, eX9_carryStones_48, eX9_carryStones_49, eX9_carryStones_50, eX9_carryStones_53, eX9_carryStones_54, eX9_carryStones_55, eX9_carryStones_58, eX9_carryStones_59, eX9_carryStones_60, eX9_carryStones_61, eX9_carryStones_61x, eX9_carryStones_61y, eX9_carryStones_62, eX9_carryStones_63, eX9_carryStones_64, eX9_carryStones_67, eX9_carryStones_68, eX9_carryStones_69, eX9_carryStones_70, eX9_carryStones_70x, eX9_carryStones_70y, eX9_carryStones_71, eX9_carryStones_74, eX9_carryStones_77, eX9_carryStones_80, eX9_carryStones_81, if_pos, if_neg, if_true, if_false, Option.bind_some, Option.toList_some, Option.toList_none, List.cons_append, List.nil_append, x4, y4]
      split <;> rfl
theorem z_carry {q : PC} {k : Nat} (h : MIs S A m H K V P n) (hA : AI A) (hk : k ≤ 41) (hq : At S k q) (hp : PW q) : ∃ (S' : MM) (r : Int), fX9_carry [vR 593, vI (k : Int)] S = some (some (vI r), S') ∧ MIs S' (crP q A).2 m H K V P n ∧ AI (crP q A).2 ∧ ((crP q A).1 = true → 0 ≤ r ∧ r ≤ 9999) ∧ (¬ (crP q A).1 = true → r < 0 ∧ -9 ≤ r) ∧ FR S S' ∧ S' 601 = S 601 ∧ S' 593 14 = S 593 14 ∧ S' 593 15 = S 593 15 := by
  obtain ⟨k9, -, -, k1, a1⟩ := k9_
  obtain ⟨k0, a0, -⟩ := mk
  have ok := hA.ok
  have x0 : ((6 : Int) * (k : Int)).toNat = 6 * k := by omega
  have x2 : ((6 : Int) * (k : Int) + 2).toNat = 6 * k + 2 := by omega
  have x3 : ((6 : Int) * (k : Int) + 3).toNat = 6 * k + 3 := by omega
  have x4 : ((6 : Int) * (k : Int) + 4).toNat = 6 * k + 4 := by omega
  obtain ⟨q0, q1, q2, q3, q4, q5⟩ := hq
  obtain ⟨what, i, w, a, b, t⟩ := q
  simp only at q0 q1 q2 q3 q4 q5 hp
  unfold PW at hp
  simp only at hp
  unfold crP
  simp only
  rcases hp with ⟨z, hw, ha, hb, ht⟩ | ⟨z, hw, ha, hb⟩ | z | z | z
  · rw [if_pos z]
    rw [z] at q0
    obtain ⟨S', r, e, w2, w3, w4, w5, w6⟩ := l_carS (a := a) hk hw hb ht (b - a + 1).toNat a 0 A S rfl (by omega) (by omega) hA h.1 ⟨q2, q4, q5⟩
    have hr : -4 ≤ r ∧ r ≤ 9 := by
      by_cases y : (lyF w t (b - a + 1).toNat A a).1 = true
      · have := w4 y; omega
      · have := w5 y; omega
    have e1 : fX9_carryStones [vR 593, vI (6 * (k : Int))] S = some (some (vI r), S') := by
      rw [← e, uX9_carryStones]
      simp (disch := omega) only [eX9_carryStones_0, eX9_carryStones_1, eX9_carryStones_2, eX9_carryStones_3, eX9_carryStones_6, eX9_carryStones_7, eX9_carryStones_8, eX9_carryStones_9, eX9_carryStones_9x, eX9_carryStones_9y, eX9_carryStones_10, eX9_carryStones_12, eX9_carryStones_13, eX9_carryStones_16, eX9_carryStones_17, eX9_carryStones_18, eX9_carryStones_19, eX9_carryStones_19x, eX9_carryStones_19y, eX9_carryStones_20, eX9_carryStones_23, eX9_carryStones_24, eX9_carryStones_27, eX9_carryStones_28, eX9_carryStones_29, eX9_carryStones_32, eX9_carryStones_33, eX9_carryStones_34, eX9_carryStones_35, eX9_carryStones_35x, eX9_carryStones_35y, eX9_carryStones_36, eX9_carryStones_37, eX9_carryStones_38, eX9_carryStones_41, eX9_carryStones_42, eX9_carryStones_43, eX9_carryStones_44, eX9_carryStones_44x, eX9_carryStones_44y, eX9_carryStones_45, eX9_carryStones_48, eX9_carryStones_49, eX9_carryStones_50, eX9_carryStones_53, eX9_carryStones_54, eX9_carryStones_55, eX9_carryStones_58, eX9_carryStones_59, eX9_carryStones_60, eX9_carryStones_61, eX9_carryStones_61x, eX9_carryStones_61y, eX9_carryStones_62, eX9_carryStones_63, eX9_carryStones_64, eX9_carryStones_67, eX9_carryStones_68, eX9_carryStones_69, eX9_carryStones_70, eX9_carryStones_70x, eX9_carryStones_70y, eX9_carryStones_71, eX9_carryStones_74, eX9_carryStones_77, eX9_carryStones_80, eX9_carryStones_81, if_pos, if_neg, if_true, if_false, Option.bind_some, Option.toList_some, Option.toList_none, List.cons_append, List.nil_append, x3, q3]
    have g9 := w6 593 (by omega)
    refine ⟨S', r, ?_, h.to w2 (by rw [g9]) (by rw [g9]) (by rw [g9]) (w6 _ (by omega)) (w6 _ (by omega)) (w6 _ (by omega)) (w6 _ (by omega)), w3, fun y => by have := w4 y; omega, fun y => by have := w5 y; omega, fun c hc => w6 c (by omega), w6 _ (by omega), by rw [g9], by rw [g9]⟩
    rw [uX9_carry]
    simp (disch := omega) only [eX9_carry_0, eX9_carry_2, eX9_carry_3, eX9_carry_4, eX9_carry_5, eX9_carry_6, eX9_carry_9, eX9_carry_10, eX9_carry_10x, eX9_carry_10y, eX9_carry_11, eX9_carry_52, eX9_carry_53, eX9_carry_54, eX9_carry_57, eX9_carry_58, eX9_carry_59, eX9_carry_60, eX9_carry_63, eX9_carry_64, eX9_carry_65, eX9_carry_66, eX9_carry_66x, eX9_carry_66y, eX9_carry_67, eX9_carry_68, eX9_carry_71, eX9_carry_72, eX9_carry_73, eX9_carry_74, eX9_carry_74x, eX9_carry_74y, eX9_carry_75, eX9_carry_76, eX9_carry_79, eX9_carry_80, eX9_carry_81, eX9_carry_82, eX9_carry_82x, eX9_carry_82y, eX9_carry_83, eX9_carry_84, eX9_carry_87, eX9_carry_88, eX9_carry_89, eX9_carry_90, eX9_carry_93, eX9_carry_94, eX9_carry_95, eX9_carry_98, eX9_carry_99, eX9_carry_100, eX9_carry_101, eX9_carry_104, if_pos, if_neg, if_true, if_false, Option.bind_some, Option.toList_some, Option.toList_none, List.cons_append, List.nil_append, x0, q0, e1]
  · rw [if_neg (by omega), if_pos z]
    rw [z] at q0
    rcases errFl_v (w := w) (a := a) (b := b) with y | y
    · rw [if_neg (by omega)]
      obtain ⟨S', e, m1, f1⟩ := z_flood0 h ok ⟨by omega, by omega⟩ y.1
      have c0 := cnt_le (nT A w a b 0) 300
      have c1 := cnt_le (nT A w a b 1) 300
      have c2 := cnt_le (nT A w a b 2) 300
      have g9 := f1 593 (by omega)
      refine ⟨S', (cnt (nT A w a b 0) 300 : Int) + cnt (nT A w a b 1) 300 + cnt (nT A w a b 2) 300, ?_, m1, hA.take y.1, fun _ => ⟨by omega, by omega⟩, fun y => absurd rfl y, fun c hc => f1 c (by omega), f1 _ (by omega), by rw [g9], by rw [g9]⟩
      rw [uX9_carry]
      simp (disch := omega) only [eX9_carry_0, eX9_carry_2, eX9_carry_3, eX9_carry_4, eX9_carry_5, eX9_carry_6, eX9_carry_9, eX9_carry_10, eX9_carry_10x, eX9_carry_10y, eX9_carry_11, eX9_carry_52, eX9_carry_53, eX9_carry_54, eX9_carry_57, eX9_carry_58, eX9_carry_59, eX9_carry_60, eX9_carry_63, eX9_carry_64, eX9_carry_65, eX9_carry_66, eX9_carry_66x, eX9_carry_66y, eX9_carry_67, eX9_carry_68, eX9_carry_71, eX9_carry_72, eX9_carry_73, eX9_carry_74, eX9_carry_74x, eX9_carry_74y, eX9_carry_75, eX9_carry_76, eX9_carry_79, eX9_carry_80, eX9_carry_81, eX9_carry_82, eX9_carry_82x, eX9_carry_82y, eX9_carry_83, eX9_carry_84, eX9_carry_87, eX9_carry_88, eX9_carry_89, eX9_carry_90, eX9_carry_93, eX9_carry_94, eX9_carry_95, eX9_carry_98, eX9_carry_99, eX9_carry_100, eX9_carry_101, eX9_carry_104, if_pos, if_neg, if_true, if_false, Option.bind_some, Option.toList_some, Option.toList_none, List.cons_append, List.nil_append, x0, x2, x3, x4, q0, q2, q3, q4, e]
    · rw [if_pos y.1]
      have e := z_tryFloodX (S := S) (x := 0) (w := w) (a := a) (b := b) ⟨by omega, by omega⟩ ⟨by omega, by omega⟩ ⟨by omega, by omega⟩ y.1
      refine ⟨S, errFl w a b, ?_, h, hA, fun y => ft y, fun _ => ⟨by omega, by omega⟩, fun _ _ => rfl, rfl, rfl, rfl⟩
      rw [uX9_carry]
      simp (disch := omega) only [eX9_carry_0, eX9_carry_2, eX9_carry_3, eX9_carry_4, eX9_carry_5, eX9_carry_6, eX9_carry_9, eX9_carry_10, eX9_carry_10x, eX9_carry_10y, eX9_carry_11, eX9_carry_52, eX9_carry_53, eX9_carry_54, eX9_carry_57, eX9_carry_58, eX9_carry_59, eX9_carry_60, eX9_carry_63, eX9_carry_64, eX9_carry_65, eX9_carry_66, eX9_carry_66x, eX9_carry_66y, eX9_carry_67, eX9_carry_68, eX9_carry_71, eX9_carry_72, eX9_carry_73, eX9_carry_74, eX9_carry_74x, eX9_carry_74y, eX9_carry_75, eX9_carry_76, eX9_carry_79, eX9_carry_80, eX9_carry_81, eX9_carry_82, eX9_carry_82x, eX9_carry_82y, eX9_carry_83, eX9_carry_84, eX9_carry_87, eX9_carry_88, eX9_carry_89, eX9_carry_90, eX9_carry_93, eX9_carry_94, eX9_carry_95, eX9_carry_98, eX9_carry_99, eX9_carry_100, eX9_carry_101, eX9_carry_104, if_pos, if_neg, if_true, if_false, Option.bind_some, Option.toList_some, Option.toList_none, List.cons_append, List.nil_append, x0, x2, x3, x4, q0, q2, q3, q4, e]
  · rw [if_neg (by omega), if_neg (by omega), if_pos z]
    rw [z] at q0
    rcases errDry_v (A := A) with y | y
    · rw [if_neg (by omega)]
      obtain ⟨S', e, m1, f1⟩ := z_dry0 h ok y
      have c0 := cnt_le (tk A 0) 300
      have c1 := cnt_le (tk A 1) 300
      have c2 := cnt_le (tk A 2) 300
      have g9 := f1 593 (by omega)
      refine ⟨S', (cnt (tk A 0) 300 : Int) + cnt (tk A 1) 300 + cnt (tk A 2) 300, ?_, m1, hA.dry y, fun _ => ⟨by omega, by omega⟩, fun y => absurd rfl y, fun c hc => f1 c (by omega), f1 _ (by omega), by rw [g9], by rw [g9]⟩
      rw [uX9_carry]
      simp (disch := omega) only [eX9_carry_0, eX9_carry_2, eX9_carry_3, eX9_carry_4, eX9_carry_5, eX9_carry_6, eX9_carry_9, eX9_carry_10, eX9_carry_10x, eX9_carry_10y, eX9_carry_11, eX9_carry_52, eX9_carry_53, eX9_carry_54, eX9_carry_57, eX9_carry_58, eX9_carry_59, eX9_carry_60, eX9_carry_63, eX9_carry_64, eX9_carry_65, eX9_carry_66, eX9_carry_66x, eX9_carry_66y, eX9_carry_67, eX9_carry_68, eX9_carry_71, eX9_carry_72, eX9_carry_73, eX9_carry_74, eX9_carry_74x, eX9_carry_74y, eX9_carry_75, eX9_carry_76, eX9_carry_79, eX9_carry_80, eX9_carry_81, eX9_carry_82, eX9_carry_82x, eX9_carry_82y, eX9_carry_83, eX9_carry_84, eX9_carry_87, eX9_carry_88, eX9_carry_89, eX9_carry_90, eX9_carry_93, eX9_carry_94, eX9_carry_95, eX9_carry_98, eX9_carry_99, eX9_carry_100, eX9_carry_101, eX9_carry_104, if_pos, if_neg, if_true, if_false, Option.bind_some, Option.toList_some, Option.toList_none, List.cons_append, List.nil_append, x0, q0, e]
    · rw [if_pos y.1]
      have e := z_tryDryX (S := S) (x := 0) h.1 ok y.1
      refine ⟨S, errDry A, ?_, h, hA, fun y => ft y, fun _ => ⟨by omega, by omega⟩, fun _ _ => rfl, rfl, rfl, rfl⟩
      rw [uX9_carry]
      simp (disch := omega) only [eX9_carry_0, eX9_carry_2, eX9_carry_3, eX9_carry_4, eX9_carry_5, eX9_carry_6, eX9_carry_9, eX9_carry_10, eX9_carry_10x, eX9_carry_10y, eX9_carry_11, eX9_carry_52, eX9_carry_53, eX9_carry_54, eX9_carry_57, eX9_carry_58, eX9_carry_59, eX9_carry_60, eX9_carry_63, eX9_carry_64, eX9_carry_65, eX9_carry_66, eX9_carry_66x, eX9_carry_66y, eX9_carry_67, eX9_carry_68, eX9_carry_71, eX9_carry_72, eX9_carry_73, eX9_carry_74, eX9_carry_74x, eX9_carry_74y, eX9_carry_75, eX9_carry_76, eX9_carry_79, eX9_carry_80, eX9_carry_81, eX9_carry_82, eX9_carry_82x, eX9_carry_82y, eX9_carry_83, eX9_carry_84, eX9_carry_87, eX9_carry_88, eX9_carry_89, eX9_carry_90, eX9_carry_93, eX9_carry_94, eX9_carry_95, eX9_carry_98, eX9_carry_99, eX9_carry_100, eX9_carry_101, eX9_carry_104, if_pos, if_neg, if_true, if_false, Option.bind_some, Option.toList_some, Option.toList_none, List.cons_append, List.nil_append, x0, q0, e]
  · rw [if_neg (by omega), if_neg (by omega), if_neg (by omega), if_pos z]
    rw [z] at q0
    have h0 := h.1
    obtain ⟨S', e, g1, f1⟩ := z_beginRun (S := S) (by rw [h0]; exact ok.1) (by rw [h0]; exact ok.2.2.2.1)
    rw [h0] at g1
    have g9 := f1 593 (by omega)
    have e1 : fX9_carryBegin [vR 593] S = some (some (vI 0), S') := by
      rw [uX9_carryBegin]
      simp (disch := omega) only [eX9_carryBegin_0, eX9_carryBegin_1, eX9_carryBegin_4, eX9_carryBegin_5, if_pos, if_neg, if_true, if_false, Option.bind_some, Option.toList_some, Option.toList_none, List.cons_append, List.nil_append, e]
    refine ⟨S', 0, ?_, h.to g1 (by rw [g9]) (by rw [g9]) (by rw [g9]) (f1 _ (by omega)) (f1 _ (by omega)) (f1 _ (by omega)) (f1 _ (by omega)), hA.begin, fun _ => ⟨by omega, by omega⟩, fun y => absurd rfl y, fun c hc => f1 c (by omega), f1 _ (by omega), by rw [g9], by rw [g9]⟩
    rw [uX9_carry]
    simp (disch := omega) only [eX9_carry_0, eX9_carry_2, eX9_carry_3, eX9_carry_4, eX9_carry_5, eX9_carry_6, eX9_carry_9, eX9_carry_10, eX9_carry_10x, eX9_carry_10y, eX9_carry_11, eX9_carry_52, eX9_carry_53, eX9_carry_54, eX9_carry_57, eX9_carry_58, eX9_carry_59, eX9_carry_60, eX9_carry_63, eX9_carry_64, eX9_carry_65, eX9_carry_66, eX9_carry_66x, eX9_carry_66y, eX9_carry_67, eX9_carry_68, eX9_carry_71, eX9_carry_72, eX9_carry_73, eX9_carry_74, eX9_carry_74x, eX9_carry_74y, eX9_carry_75, eX9_carry_76, eX9_carry_79, eX9_carry_80, eX9_carry_81, eX9_carry_82, eX9_carry_82x, eX9_carry_82y, eX9_carry_83, eX9_carry_84, eX9_carry_87, eX9_carry_88, eX9_carry_89, eX9_carry_90, eX9_carry_93, eX9_carry_94, eX9_carry_95, eX9_carry_98, eX9_carry_99, eX9_carry_100, eX9_carry_101, eX9_carry_104, if_pos, if_neg, if_true, if_false, Option.bind_some, Option.toList_some, Option.toList_none, List.cons_append, List.nil_append, x0, q0, e1]
  · rw [if_neg (by omega), if_neg (by omega), if_neg (by omega), if_neg (by omega)]
    rw [z] at q0
    by_cases h4 : A 4 = 1
    · rw [if_pos h4]
      obtain ⟨S', e, m1, f1, g6, g14, g15⟩ := z_tryLeap0 h ok h4
      have hb := nxtW_b A
      refine ⟨S', nxtW A, ?_, m1, hA.leap h4, fun _ => ⟨by omega, by omega⟩, fun y => absurd rfl y, f1, g6, g14, g15⟩
      rw [uX9_carry]
      simp (disch := omega) only [eX9_carry_0, eX9_carry_2, eX9_carry_3, eX9_carry_4, eX9_carry_5, eX9_carry_6, eX9_carry_9, eX9_carry_10, eX9_carry_10x, eX9_carry_10y, eX9_carry_11, eX9_carry_52, eX9_carry_53, eX9_carry_54, eX9_carry_57, eX9_carry_58, eX9_carry_59, eX9_carry_60, eX9_carry_63, eX9_carry_64, eX9_carry_65, eX9_carry_66, eX9_carry_66x, eX9_carry_66y, eX9_carry_67, eX9_carry_68, eX9_carry_71, eX9_carry_72, eX9_carry_73, eX9_carry_74, eX9_carry_74x, eX9_carry_74y, eX9_carry_75, eX9_carry_76, eX9_carry_79, eX9_carry_80, eX9_carry_81, eX9_carry_82, eX9_carry_82x, eX9_carry_82y, eX9_carry_83, eX9_carry_84, eX9_carry_87, eX9_carry_88, eX9_carry_89, eX9_carry_90, eX9_carry_93, eX9_carry_94, eX9_carry_95, eX9_carry_98, eX9_carry_99, eX9_carry_100, eX9_carry_101, eX9_carry_104, if_pos, if_neg, if_true, if_false, Option.bind_some, Option.toList_some, Option.toList_none, List.cons_append, List.nil_append, x0, q0, e]
    · rw [if_neg h4]
      have e := z_tryLeapX (x := 0) h ok h4
      refine ⟨S, -5, ?_, h, hA, fun y => ft y, fun _ => ⟨by omega, by omega⟩, fun _ _ => rfl, rfl, rfl, rfl⟩
      rw [uX9_carry]
      simp (disch := omega) only [eX9_carry_0, eX9_carry_2, eX9_carry_3, eX9_carry_4, eX9_carry_5, eX9_carry_6, eX9_carry_9, eX9_carry_10, eX9_carry_10x, eX9_carry_10y, eX9_carry_11, eX9_carry_52, eX9_carry_53, eX9_carry_54, eX9_carry_57, eX9_carry_58, eX9_carry_59, eX9_carry_60, eX9_carry_63, eX9_carry_64, eX9_carry_65, eX9_carry_66, eX9_carry_66x, eX9_carry_66y, eX9_carry_67, eX9_carry_68, eX9_carry_71, eX9_carry_72, eX9_carry_73, eX9_carry_74, eX9_carry_74x, eX9_carry_74y, eX9_carry_75, eX9_carry_76, eX9_carry_79, eX9_carry_80, eX9_carry_81, eX9_carry_82, eX9_carry_82x, eX9_carry_82y, eX9_carry_83, eX9_carry_84, eX9_carry_87, eX9_carry_88, eX9_carry_89, eX9_carry_90, eX9_carry_93, eX9_carry_94, eX9_carry_95, eX9_carry_98, eX9_carry_99, eX9_carry_100, eX9_carry_101, eX9_carry_104, if_pos, if_neg, if_true, if_false, Option.bind_some, Option.toList_some, Option.toList_none, List.cons_append, List.nil_append, x0, q0, e]
end MO26
