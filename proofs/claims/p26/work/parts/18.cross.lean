/-! the run: turns, looks round, meetings -/
theorem ta1 : (0 : Int) + 1 = 1 := rfl
theorem ta2 : (1 : Int) + 1 = 2 := rfl
theorem ta3 : (2 : Int) + 1 = 3 := rfl
theorem tn0 : (0 : Int).toNat = 0 := rfl
theorem tn1 : (1 : Int).toNat = 1 := rfl
theorem tn2 : (2 : Int).toNat = 2 := rfl
theorem tn3 : (3 : Int).toNat = 3 := rfl
def tv : List Int := [0, 1, 2, 0, 2, 1, 1, 0, 2, 1, 2, 0, 2, 0, 1, 2, 1, 0]
def TNS (S : MM) : Prop := S 604 0 = 18 ∧ ∀ j : Nat, j < 18 → S 602 j = tv.getD j 0
theorem TNS.rows {S S' : MM} (h : TNS S) (h1 : S' 604 = S 604) (h2 : S' 602 = S 602) : TNS S' := by
  unfold TNS
  rw [h1, h2]
  exact h
def trn (o p : Int) : Int := tv.getD (3 * o + p).toNat 0
theorem tv_b : ∀ j : Nat, 0 ≤ tv.getD j 0 ∧ tv.getD j 0 ≤ 2 := by
  intro j
  by_cases h : j < 18
  · have key : ∀ j : Fin 18, 0 ≤ tv.getD j.val 0 ∧ tv.getD j.val 0 ≤ 2 := by decide
    exact key ⟨j, h⟩
  · have : tv.getD j 0 = 0 := by
      rw [List.getD_eq_getElem?_getD, List.getElem?_eq_none (show tv.length ≤ j by have : tv.length = 18 := rfl; omega)]
      rfl
    omega
theorem trn_b (o p : Int) : 0 ≤ trn o p ∧ trn o p ≤ 2 := tv_b _
theorem s_walkerInTurn {S : MM} {o p : Int} (hT : TNS S) (ho : 0 ≤ o ∧ o ≤ 5) (hp : 0 ≤ p ∧ p ≤ 2) : fX8_walkerInTurn [vI o, vI p] S = some (some (vI (trn o p)), S) := by
  have h1 := hT.1
  have h2 := hT.2 (3 * o + p).toNat (by omega)
  rw [uX8_walkerInTurn]
  simp (disch := omega) only [eX8_walkerInTurn_0, eX8_walkerInTurn_1, eX8_walkerInTurn_2, eX8_walkerInTurn_3, eX8_walkerInTurn_4, eX8_walkerInTurn_5, eX8_walkerInTurn_6, eX8_walkerInTurn_7, eX8_walkerInTurn_10, eX8_walkerInTurn_11, eX8_walkerInTurn_14, eX8_walkerInTurn_14x, eX8_walkerInTurn_14y, eX8_walkerInTurn_15, eX8_walkerInTurn_18, eX8_walkerInTurn_21, eX8_walkerInTurn_22, eX8_walkerInTurn_22x, eX8_walkerInTurn_22y, eX8_walkerInTurn_23, eX8_walkerInTurn_26, eX8_walkerInTurn_27, if_pos, if_neg, if_true, if_false, Option.bind_some, Option.toList_some, Option.toList_none, List.cons_append, List.nil_append]
  rw [h2]
  rfl
def plc (o w : Int) : Int := if trn o 2 = w then 2 else if trn o 1 = w then 1 else 0
theorem plc_b (o w : Int) : 0 ≤ plc o w ∧ plc o w ≤ 2 := by
  unfold plc
  split
  · omega
  · split <;> omega
def bhd (o w n : Int) : Int := trn o ((plc o w + n) % 3)
theorem s_walkerBehind {S : MM} {o w n : Int} (hT : TNS S) (ho : 0 ≤ o ∧ o ≤ 5) (hw : rng w) (hn : 0 ≤ n ∧ n ≤ 2) : fX8_walkerBehind [vI o, vI w, vI n] S = some (some (vI (bhd o w n)), S) := by
  obtain ⟨w1, w2⟩ := hw
  have e0 := s_walkerInTurn (p := 0) hT ho (by omega)
  have e1 := s_walkerInTurn (p := 1) hT ho (by omega)
  have e2 := s_walkerInTurn (p := 2) hT ho (by omega)
  have b0 := trn_b o 0
  have b1 := trn_b o 1
  have b2 := trn_b o 2
  have fin : ∀ pl : Int, 0 ≤ pl → pl ≤ 2 → plc o w = pl → rn xX8_walkerBehind (5, [some (vI o), some (vI w), some (vI n), some (vI pl), some (vI 3)], [], S) = some (some (vI (bhd o w n)), S) := by
    intro pl q1 q2 q3
    have e3 := s_walkerInTurn (p := (pl + n) % 3) hT ho (by omega)
    rw [eX8_walkerBehind_5]
    simp (disch := omega) only [eX8_walkerBehind_0, eX8_walkerBehind_1, eX8_walkerBehind_2, eX8_walkerBehind_3, eX8_walkerBehind_7, eX8_walkerBehind_8, eX8_walkerBehind_11, eX8_walkerBehind_12, eX8_walkerBehind_14, eX8_walkerBehind_17, eX8_walkerBehind_18, eX8_walkerBehind_21, eX8_walkerBehind_23, eX8_walkerBehind_24, eX8_walkerBehind_27, eX8_walkerBehind_30, eX8_walkerBehind_31, eX8_walkerBehind_32, eX8_walkerBehind_33, eX8_walkerBehind_34, eX8_walkerBehind_35, eX8_walkerBehind_36, eX8_walkerBehind_39, if_pos, if_neg, if_true, if_false, Option.bind_some, Option.toList_some, Option.toList_none, List.cons_append, List.nil_append, e3]
    unfold bhd
    rw [q3]
  have l2 : ∀ pl : Int, 0 ≤ pl → pl ≤ 2 → (if trn o 2 = w then 2 else pl) = plc o w → rn xX8_walkerBehind (5, [some (vI o), some (vI w), some (vI n), some (vI pl), some (vI 2)], [], S) = some (some (vI (bhd o w n)), S) := by
    intro pl q1 q2 q3
    rw [eX8_walkerBehind_5]
    simp (disch := omega) only [eX8_walkerBehind_0, eX8_walkerBehind_1, eX8_walkerBehind_2, eX8_walkerBehind_3, eX8_walkerBehind_7, eX8_walkerBehind_8, eX8_walkerBehind_11, eX8_walkerBehind_12, eX8_walkerBehind_14, eX8_walkerBehind_17, eX8_walkerBehind_18, eX8_walkerBehind_21, eX8_walkerBehind_23, eX8_walkerBehind_24, eX8_walkerBehind_27, eX8_walkerBehind_30, eX8_walkerBehind_31, eX8_walkerBehind_32, eX8_walkerBehind_33, eX8_walkerBehind_34, eX8_walkerBehind_35, eX8_walkerBehind_36, eX8_walkerBehind_39, if_pos, if_neg, if_true, if_false, Option.bind_some, Option.toList_some, Option.toList_none, List.cons_append, List.nil_append, e2]
    by_cases c : trn o 2 = w
    · rw [if_pos c] at q3 ⊢
      exact fin 2 (by omega) (by omega) q3.symm
    · rw [if_neg c] at q3 ⊢
      exact fin pl q1 q2 q3.symm
  have l1 : ∀ pl : Int, 0 ≤ pl → pl ≤ 2 → (if trn o 2 = w then 2 else if trn o 1 = w then 1 else pl) = plc o w → rn xX8_walkerBehind (5, [some (vI o), some (vI w), some (vI n), some (vI pl), some (vI 1)], [], S) = some (some (vI (bhd o w n)), S) := by
    intro pl q1 q2 q3
    rw [eX8_walkerBehind_5]
    simp (disch := omega) only [eX8_walkerBehind_0, eX8_walkerBehind_1, eX8_walkerBehind_2, eX8_walkerBehind_3, eX8_walkerBehind_7, eX8_walkerBehind_8, eX8_walkerBehind_11, eX8_walkerBehind_12, eX8_walkerBehind_14, eX8_walkerBehind_17, eX8_walkerBehind_18, eX8_walkerBehind_21, eX8_walkerBehind_23, eX8_walkerBehind_24, eX8_walkerBehind_27, eX8_walkerBehind_30, eX8_walkerBehind_31, eX8_walkerBehind_32, eX8_walkerBehind_33, eX8_walkerBehind_34, eX8_walkerBehind_35, eX8_walkerBehind_36, eX8_walkerBehind_39, if_pos, if_neg, if_true, if_false, Option.bind_some, Option.toList_some, Option.toList_none, List.cons_append, List.nil_append, e1]
    by_cases c : trn o 1 = w
    · rw [if_pos c] at q3 ⊢
      exact l2 1 (by omega) (by omega) q3
    · rw [if_neg c] at q3 ⊢
      exact l2 pl q1 q2 q3
  rw [uX8_walkerBehind]
  simp (disch := omega) only [eX8_walkerBehind_0, eX8_walkerBehind_1, eX8_walkerBehind_2, eX8_walkerBehind_3, eX8_walkerBehind_7, eX8_walkerBehind_8, eX8_walkerBehind_11, eX8_walkerBehind_12, eX8_walkerBehind_14, eX8_walkerBehind_17, eX8_walkerBehind_18, eX8_walkerBehind_21, eX8_walkerBehind_23, eX8_walkerBehind_24, eX8_walkerBehind_27, eX8_walkerBehind_30, eX8_walkerBehind_31, eX8_walkerBehind_32, eX8_walkerBehind_33, eX8_walkerBehind_34, eX8_walkerBehind_35, eX8_walkerBehind_36, eX8_walkerBehind_39, if_pos, if_neg, if_true, if_false, Option.bind_some, Option.toList_some, Option.toList_none, List.cons_append, List.nil_append]
  rw [eX8_walkerBehind_5]
  simp (disch := omega) only [eX8_walkerBehind_0, eX8_walkerBehind_1, eX8_walkerBehind_2, eX8_walkerBehind_3, eX8_walkerBehind_7, eX8_walkerBehind_8, eX8_walkerBehind_11, eX8_walkerBehind_12, eX8_walkerBehind_14, eX8_walkerBehind_17, eX8_walkerBehind_18, eX8_walkerBehind_21, eX8_walkerBehind_23, eX8_walkerBehind_24, eX8_walkerBehind_27, eX8_walkerBehind_30, eX8_walkerBehind_31, eX8_walkerBehind_32, eX8_walkerBehind_33, eX8_walkerBehind_34, eX8_walkerBehind_35, eX8_walkerBehind_36, eX8_walkerBehind_39, if_pos, if_neg, if_true, if_false, Option.bind_some, Option.toList_some, Option.toList_none, List.cons_append, List.nil_append, e0]
  by_cases c : trn o 0 = w
  · rw [if_pos c]
    exact l1 0 (by omega) (by omega) rfl
  · rw [if_neg c]
    exact l1 0 (by omega) (by omega) rfl
def crs (c : Nat) : Prop := (kd c = 0 ∧ kd (c + 1) = 10 ∧ kd (c + 2) = 10 ∧ kd (c + 3) = 10 ∧ kd (c + 4) = 10 ∧ kd (c + 5) = 10 ∧ kd (c + 6) = 10 ∧ kd (c + 7) = 10) ∧ alen (c + 1) = 300 ∧ alen (c + 2) = 300 ∧ alen (c + 3) = 3 ∧ alen (c + 4) = 3 ∧ alen (c + 5) = 3 ∧ alen (c + 6) = 3 ∧ alen (c + 7) = 3
def flg (S : MM) (c : Nat) (A : Nat → Int) : Prop := (A 4 = 0 ∧ S c 0 = 0 ∧ S c 1 = 0) ∨ (A 4 = 1 ∧ S c 0 = 1 ∧ S c 1 = 0) ∨ (A 4 = 2 ∧ S c 0 = 1 ∧ S c 1 = 1)
def tri (S : MM) (i a : Nat) (A : Nat → Int) : Prop := ∀ w : Nat, w < 3 → S i w = A (a + w)
def MetA (A : Nat → Int) : Nat → Int := fun k => A (925 + k)
theorem MetA_up {A : Nat → Int} {k : Nat} {z : Int} (h : k < 925) : MetA (up A k z) = MetA A := by
  funext j
  unfold MetA
  rw [up_ne (by omega)]
def mtg (S : MM) (c : Nat) (M : Nat → Int) : Prop := S c 4 = (cnt M 300 : Int) ∧ Enm M (S (c + 1)) ∧ EnV M (S (c + 2))
def CrossIs (S : MM) (c : Nat) (A : Nat → Int) : Prop := flg S c A ∧ S c 2 = A 5 ∧ S c 3 = A 6 ∧ mtg S c (MetA A) ∧ tri S (c + 3) 20 A ∧ tri S (c + 4) 8 A ∧ tri S (c + 5) 11 A ∧ tri S (c + 6) 14 A ∧ tri S (c + 7) 17 A
def RunR (A : Nat → Int) : Prop := (0 ≤ A 5 ∧ A 5 ≤ 300) ∧ (0 ≤ A 6 ∧ A 6 ≤ 2) ∧ (∀ k, k < 300 → 0 ≤ MetA A k ∧ MetA A k ≤ 729) ∧ (∀ k : Nat, k < 300 → 0 < MetA A k → (k : Int) < A 5) ∧ ∀ w : Nat, w < 3 → (0 ≤ A (20 + w) ∧ A (20 + w) ≤ 300) ∧ (0 ≤ A (8 + w) ∧ 0 ≤ A (14 + w) ∧ A (8 + w) + A (14 + w) ≤ A (20 + w)) ∧ (0 ≤ A (11 + w) ∧ A (11 + w) ≤ 80 * A (8 + w)) ∧ (0 ≤ A (17 + w) ∧ A (17 + w) ≤ 299)
def RunS (A : Nat → Int) (R : Nat → Nat → Int) : Prop := (0 ≤ A 4 ∧ A 4 ≤ 2) ∧ (A 4 = 1 → (∀ w : Nat, w < 3 → A (20 + w) < 300 ∧ A (20 + w) ≤ A 1 ∧ 0 < R w (A (20 + w)).toNat) ∧ ∃ w : Nat, w < 3 ∧ A (20 + w) < A 5) ∧ (A 4 = 2 → ∀ w : Nat, w < 3 → A (20 + w) = 300 ∨ 0 < R w (A (20 + w)).toNat)
theorem CrossIs.rows {S S' : MM} {c : Nat} {A : Nat → Int} (h : CrossIs S c A) (he : ∀ a, c ≤ a → a < c + 8 → S' a = S a) : CrossIs S' c A := by
  unfold CrossIs flg tri mtg at h ⊢
  rw [he c (by omega) (by omega), he (c + 1) (by omega) (by omega), he (c + 2) (by omega) (by omega), he (c + 3) (by omega) (by omega), he (c + 4) (by omega) (by omega), he (c + 5) (by omega) (by omega), he (c + 6) (by omega) (by omega), he (c + 7) (by omega) (by omega)]
  exact h
theorem CrossIs.congr {S : MM} {c : Nat} {A A' : Nat → Int} (h : CrossIs S c A) (h1 : ∀ k, 4 ≤ k → k < 25 → k ≠ 7 → A' k = A k) (h2 : ∀ k, 925 ≤ k → k < 1225 → A' k = A k) : CrossIs S c A' := by
  obtain ⟨g1, g2, g3, ⟨m1, m2, m3⟩, t1, t2, t3, t4, t5⟩ := h
  have eM : ∀ k, k < 300 → MetA A' k = MetA A k := fun k hk => h2 (925 + k) (by omega) (by omega)
  have eC : ∀ m, m ≤ 300 → cnt (MetA A') m = cnt (MetA A) m := fun m hm => cnt_congr (fun k hk => by rw [eM k (by omega)])
  unfold CrossIs flg tri mtg
  rw [h1 4 (by omega) (by omega) (by omega), h1 5 (by omega) (by omega) (by omega), h1 6 (by omega) (by omega) (by omega), eC 300 (Nat.le_refl _)]
  refine ⟨g1, g2, g3, ⟨m1, fun k hk hp => ?_, fun k hk hp => ?_⟩, fun w hw => ?_, fun w hw => ?_, fun w hw => ?_, fun w hw => ?_, fun w hw => ?_⟩
  · rw [eC k (by omega)]; exact m2 k hk (by rw [← eM k hk]; exact hp)
  · rw [eC k (by omega), eM k hk]; exact m3 k hk (by rw [← eM k hk]; exact hp)
  · rw [h1 _ (by omega) (by omega) (by omega)]; exact t1 w hw
  · rw [h1 _ (by omega) (by omega) (by omega)]; exact t2 w hw
  · rw [h1 _ (by omega) (by omega) (by omega)]; exact t3 w hw
  · rw [h1 _ (by omega) (by omega) (by omega)]; exact t4 w hw
  · rw [h1 _ (by omega) (by omega) (by omega)]; exact t5 w hw
theorem RunR.congr {A A' : Nat → Int} (h : RunR A) (h1 : ∀ k, 4 ≤ k → k < 25 → k ≠ 7 → A' k = A k) (h2 : ∀ k, 925 ≤ k → k < 1225 → A' k = A k) : RunR A' := by
  obtain ⟨g1, g2, g3, g4, g5⟩ := h
  have eM : ∀ k, k < 300 → MetA A' k = MetA A k := fun k hk => h2 (925 + k) (by omega) (by omega)
  unfold RunR
  rw [h1 5 (by omega) (by omega) (by omega), h1 6 (by omega) (by omega) (by omega)]
  refine ⟨g1, g2, fun k hk => by rw [eM k hk]; exact g3 k hk, fun k hk hp => g4 k hk (by rw [← eM k hk]; exact hp), fun w hw => ?_⟩
  rw [h1 (20 + w) (by omega) (by omega) (by omega), h1 (8 + w) (by omega) (by omega) (by omega), h1 (14 + w) (by omega) (by omega) (by omega), h1 (11 + w) (by omega) (by omega) (by omega), h1 (17 + w) (by omega) (by omega) (by omega)]
  exact g5 w hw
def gr3 (a b c : Int) : Int := if a < (if b < c then c else b) then (if b < c then c else b) else a
theorem gr3_s (a b c : Int) : a ≤ gr3 a b c ∧ b ≤ gr3 a b c ∧ c ≤ gr3 a b c ∧ (gr3 a b c = a ∨ gr3 a b c = b ∨ gr3 a b c = c) := by
  unfold gr3
  split <;> split <;> omega
section CRS
variable {S : MM} {c : Nat} {A : Nat → Int}
theorem RunR.b (h : RunR A) : (0 ≤ A 20 ∧ A 20 ≤ 300) ∧ (0 ≤ A 21 ∧ A 21 ≤ 300) ∧ (0 ≤ A 22 ∧ A 22 ≤ 300) :=
  ⟨(h.2.2.2.2 0 (by omega)).1, (h.2.2.2.2 1 (by omega)).1, (h.2.2.2.2 2 (by omega)).1⟩
theorem s_isBegun (hc : crs c) : fX0_isBegun [vR c] S = some (some (vI (S c 0)), S) ∨ ¬ (S c 0 = 0 ∨ S c 0 = 1) := by
  obtain ⟨⟨k0, -⟩, -⟩ := hc
  by_cases h : S c 0 = 0 ∨ S c 0 = 1
  · left
    rw [uX0_isBegun]
    simp (disch := omega) only [eX0_isBegun_0, eX0_isBegun_1, eX0_isBegun_4, if_pos, if_neg, if_true, if_false, Option.bind_some, Option.toList_some, Option.toList_none, List.cons_append, List.nil_append]
  · exact Or.inr h
theorem flg_b (h : CrossIs S c A) : (S c 0 = 0 ∨ S c 0 = 1) ∧ (S c 1 = 0 ∨ S c 1 = 1) := by
  rcases h.1 with q | q | q <;> omega
theorem s_goesOn (hc : crs c) (h : CrossIs S c A) : fX0_goesOn [vR c] S = some (some (vI (if A 4 = 1 then 1 else 0)), S) := by
  obtain ⟨⟨k0, -⟩, -⟩ := hc
  rw [uX0_goesOn]
  rcases h.1 with ⟨q1, q2, q3⟩ | ⟨q1, q2, q3⟩ | ⟨q1, q2, q3⟩
  · simp (disch := omega) only [eX0_goesOn_0, eX0_goesOn_1, eX0_goesOn_4, eX0_goesOn_7, eX0_goesOn_8, eX0_goesOn_11, eX0_goesOn_14, eX0_goesOn_15, eX0_goesOn_18, eX0_goesOn_19, if_pos, if_neg, if_true, if_false, Option.bind_some, Option.toList_some, Option.toList_none, List.cons_append, List.nil_append]
  · simp (disch := omega) only [eX0_goesOn_0, eX0_goesOn_1, eX0_goesOn_4, eX0_goesOn_7, eX0_goesOn_8, eX0_goesOn_11, eX0_goesOn_14, eX0_goesOn_15, eX0_goesOn_18, eX0_goesOn_19, if_pos, if_neg, if_true, if_false, Option.bind_some, Option.toList_some, Option.toList_none, List.cons_append, List.nil_append]
  · simp (disch := omega) only [eX0_goesOn_0, eX0_goesOn_1, eX0_goesOn_4, eX0_goesOn_7, eX0_goesOn_8, eX0_goesOn_11, eX0_goesOn_14, eX0_goesOn_15, eX0_goesOn_18, eX0_goesOn_19, if_pos, if_neg, if_true, if_false, Option.bind_some, Option.toList_some, Option.toList_none, List.cons_append, List.nil_append]
theorem s_highestKey (hc : crs c) (h : CrossIs S c A) (hr : RunR A) : fX0_highestKey [vR c] S = some (some (vI (gr3 (A 20) (A 21) (A 22))), S) := by
  obtain ⟨⟨k0, k1, k2, k3, k4, k5, k6, k7⟩, a1, a2, a3, a4, a5, a6, a7⟩ := hc
  obtain ⟨b0, b1, b2⟩ := hr.b
  have t0 : S (c + 3) 0 = A 20 := h.2.2.2.2.1 0 (by omega)
  have t1 : S (c + 3) 1 = A 21 := h.2.2.2.2.1 1 (by omega)
  have t2 : S (c + 3) 2 = A 22 := h.2.2.2.2.1 2 (by omega)
  have m1 := s_max (S := S) (a := A 21) (b := A 22) ⟨by omega, by omega⟩ ⟨by omega, by omega⟩
  have m2 := s_max (S := S) (a := A 20) (b := if A 21 < A 22 then A 22 else A 21) ⟨by omega, by omega⟩ ⟨by split <;> omega, by split <;> omega⟩
  rw [uX0_highestKey]
  simp (disch := omega) only [eX0_highestKey_0, eX0_highestKey_1, eX0_highestKey_4, eX0_highestKey_5, eX0_highestKey_5x, eX0_highestKey_5y, eX0_highestKey_6, eX0_highestKey_7, eX0_highestKey_10, eX0_highestKey_11, eX0_highestKey_11x, eX0_highestKey_11y, eX0_highestKey_12, eX0_highestKey_13, eX0_highestKey_16, eX0_highestKey_17, eX0_highestKey_17x, eX0_highestKey_17y, eX0_highestKey_18, eX0_highestKey_21, eX0_highestKey_24, if_pos, if_neg, if_true, if_false, Option.bind_some, Option.toList_some, Option.toList_none, List.cons_append, List.nil_append, tn0, tn1, tn2, t0, t1, t2, m1, m2]
  rfl
def mOvr (A : Nat → Int) (hi : Int) : Nat → Int := if A 4 = 1 ∧ hi < gr3 (A 20) (A 21) (A 22) then up A 4 2 else A
theorem s_endAbove {hi : Int} (hc : crs c) (h : CrossIs S c A) (hr : RunR A) (hh : rng hi) : ∃ S', fX0_endAbove [vR c, vI hi] S = some (none, S') ∧ CrossIs S' c (mOvr A hi) ∧ (∀ a, a ≠ c → S' a = S a) := by
  have hk := s_highestKey hc h hr
  obtain ⟨b0, b1, b2⟩ := hr.b
  have hg := gr3_s (A 20) (A 21) (A 22)
  obtain ⟨⟨k0, -⟩, -⟩ := id hc
  obtain ⟨hh1, hh2⟩ := hh
  unfold mOvr
  generalize gr3 (A 20) (A 21) (A 22) = g at hk hg
  have key : (A 4 = 1 ∨ A 4 = 2) → (S c 0 = 1) → (A 4 = 2 ∨ hi < g) → CrossIs (updM S c 1 1) c (if A 4 = 1 ∧ hi < g then up A 4 2 else A) := by
    intro q1 q2 w
    · obtain ⟨g1, g2, g3, ⟨m1, m2, m3⟩, t1, t2, t3, t4, t5⟩ := h
      have hA : ∀ k, k ≠ 4 → (if A 4 = 1 ∧ hi < g then up A 4 2 else A) k = A k := by
        intro k hk
        split
        · rw [up_ne hk]
        · rfl
      have hA4 : (if A 4 = 1 ∧ hi < g then up A 4 2 else A) 4 = 2 := by
        split
        · rw [up_eq]
        · omega
      have base : CrossIs (updM S c 1 1) c (up A 4 2) := by
        unfold CrossIs flg mtg tri
        rw [MetA_up (show 4 < 925 by omega), updM_eq, updM_ne (by omega), updM_ne (by omega), updM_ne (by omega), updM_ne (by omega), updM_ne (by omega), updM_ne (by omega), updM_ne (by omega)]
        refine ⟨Or.inr (Or.inr ⟨up_eq, by rw [up_ne (by omega)]; exact q2, up_eq⟩), by rw [up_ne (by omega), up_ne (by omega)]; exact g2, by rw [up_ne (by omega), up_ne (by omega)]; exact g3, ⟨by rw [up_ne (by omega)]; exact m1, m2, m3⟩, fun w hw => by rw [up_ne (by omega)]; exact t1 w hw, fun w hw => by rw [up_ne (by omega)]; exact t2 w hw, fun w hw => by rw [up_ne (by omega)]; exact t3 w hw, fun w hw => by rw [up_ne (by omega)]; exact t4 w hw, fun w hw => by rw [up_ne (by omega)]; exact t5 w hw⟩
      refine base.congr (fun k y1 y2 y3 => ?_) (fun k y1 y2 => ?_)
      · by_cases y : k = 4
        · rw [y, hA4, up_eq]
        · rw [hA k y, up_ne y]
      · rw [hA k (by omega), up_ne (by omega)]
  rw [uX0_endAbove]
  rcases h.1 with ⟨q1, q2, q3⟩ | ⟨q1, q2, q3⟩ | ⟨q1, q2, q3⟩
  · refine ⟨S, ?_, by rw [if_neg (by omega)]; exact h, fun _ _ => rfl⟩
    simp (disch := omega) only [eX0_endAbove_0, eX0_endAbove_1, eX0_endAbove_4, eX0_endAbove_7, eX0_endAbove_8, eX0_endAbove_11, eX0_endAbove_12, eX0_endAbove_15, eX0_endAbove_16, eX0_endAbove_17, eX0_endAbove_20, if_pos, if_neg, if_true, if_false, Option.bind_some, Option.toList_some, Option.toList_none, List.cons_append, List.nil_append]
  · by_cases d : hi < g
    · have := key (Or.inl q1) q2 (Or.inr d)
      refine ⟨updM S c 1 1, ?_, ?_, fun a ha => updM_ne ha⟩
      · simp (disch := omega) only [eX0_endAbove_0, eX0_endAbove_1, eX0_endAbove_4, eX0_endAbove_7, eX0_endAbove_8, eX0_endAbove_11, eX0_endAbove_12, eX0_endAbove_15, eX0_endAbove_16, eX0_endAbove_17, eX0_endAbove_20, if_pos, if_neg, if_true, if_false, Option.bind_some, Option.toList_some, Option.toList_none, List.cons_append, List.nil_append, hk]
      · exact this
    · refine ⟨S, ?_, by rw [if_neg (by omega)]; exact h, fun _ _ => rfl⟩
      simp (disch := omega) only [eX0_endAbove_0, eX0_endAbove_1, eX0_endAbove_4, eX0_endAbove_7, eX0_endAbove_8, eX0_endAbove_11, eX0_endAbove_12, eX0_endAbove_15, eX0_endAbove_16, eX0_endAbove_17, eX0_endAbove_20, if_pos, if_neg, if_true, if_false, Option.bind_some, Option.toList_some, Option.toList_none, List.cons_append, List.nil_append, hk]
  · by_cases d : hi < g
    · have := key (Or.inr q1) q2 (Or.inl q1)
      refine ⟨updM S c 1 1, ?_, ?_, fun a ha => updM_ne ha⟩
      · simp (disch := omega) only [eX0_endAbove_0, eX0_endAbove_1, eX0_endAbove_4, eX0_endAbove_7, eX0_endAbove_8, eX0_endAbove_11, eX0_endAbove_12, eX0_endAbove_15, eX0_endAbove_16, eX0_endAbove_17, eX0_endAbove_20, if_pos, if_neg, if_true, if_false, Option.bind_some, Option.toList_some, Option.toList_none, List.cons_append, List.nil_append, hk]
      · exact this
    · refine ⟨S, ?_, by rw [if_neg (by omega)]; exact h, fun _ _ => rfl⟩
      simp (disch := omega) only [eX0_endAbove_0, eX0_endAbove_1, eX0_endAbove_4, eX0_endAbove_7, eX0_endAbove_8, eX0_endAbove_11, eX0_endAbove_12, eX0_endAbove_15, eX0_endAbove_16, eX0_endAbove_17, eX0_endAbove_20, if_pos, if_neg, if_true, if_false, Option.bind_some, Option.toList_some, Option.toList_none, List.cons_append, List.nil_append, hk]
/-- a meeting put behind the others -/
theorem s_meet {key rows : Int} (hc : crs c) {M : Nat → Int} (hm : mtg S c M) (hk : 0 ≤ key ∧ key < 300) (hrw : 0 < rows) (hno : ∀ k : Nat, k < 300 → 0 < M k → (k : Int) < key) : ∃ S', fX0_meet [vR c, vI key, vI rows] S = some (none, S') ∧ mtg S' c (up M key.toNat rows) ∧ (∀ k, k ≠ 4 → S' c k = S c k) ∧ (∀ a, a ≠ c → a ≠ c + 1 → a ≠ c + 2 → S' a = S a) := by
  obtain ⟨⟨k0, k1, k2, k3, k4, k5, k6, k7⟩, a1, a2, a3, a4, a5, a6, a7⟩ := hc
  obtain ⟨m1, m2, m3⟩ := hm
  have hz : ∀ j : Nat, key.toNat ≤ j → j < 300 → ¬ 0 < M j := by
    intro j q1 q2 q3
    have := hno j q2 q3
    omega
  have hcn : cnt M 300 = cnt M key.toNat := cnt_skip (by omega) hz
  have hle := cnt_le M key.toNat
  have e1 : updM S (c + 1) (cnt M 300) key c 4 = (cnt M 300 : Int) := by rw [updM_ne (by omega)]; exact m1
  have e2 : updM (updM S (c + 1) (cnt M 300) key) (c + 2) (cnt M 300) rows c 4 = (cnt M 300 : Int) := by rw [updM_ne (by omega), updM_ne (by omega)]; exact m1
  refine ⟨updM (updM (updM S (c + 1) (cnt M 300) key) (c + 2) (cnt M 300) rows) c 4 ((cnt M 300 : Int) + 1), ?_, ?_, fun k hk => by rw [updM_eq, up_ne hk, updM_ne (by omega), updM_ne (by omega)], fun a h0 h1 h2 => by rw [updM_ne h0, updM_ne h2, updM_ne h1]⟩
  · rw [uX0_meet]
    simp (disch := omega) only [eX0_meet_0, eX0_meet_1, eX0_meet_4, eX0_meet_7, eX0_meet_10, eX0_meet_11, eX0_meet_14, eX0_meet_15, eX0_meet_18, eX0_meet_19, eX0_meet_20, eX0_meet_21, eX0_meet_24, eX0_meet_25, eX0_meet_28, eX0_meet_29, eX0_meet_30, eX0_meet_31, eX0_meet_32, eX0_meet_35, eX0_meet_36, eX0_meet_37, eX0_meet_40, if_pos, if_neg, if_true, if_false, Option.bind_some, Option.toList_some, Option.toList_none, List.cons_append, List.nil_append, m1, Int.toNat_natCast, e1, e2]
  · have ce := cnt_up0 (r := M) (a := key.toNat) (t := rows) hrw (hz _ (Nat.le_refl _) (by omega))
    have c3 := ce 300
    rw [if_pos (by omega)] at c3
    refine ⟨by rw [updM_eq, up_eq, c3]; omega, fun k f1 f2 => ?_, fun k f1 f2 => ?_⟩
    · rw [updM_ne (by omega), updM_ne (by omega), updM_eq, ce]
      by_cases d : k = key.toNat
      · subst d
        rw [if_neg (by omega), hcn]
        simp only [Nat.add_zero]
        rw [up_eq]
        omega
      · rw [up_ne d] at f2
        have f3 := hno k f1 f2
        have f4 := cnt_lt f1 f2
        rw [if_neg (by omega)]
        simp only [Nat.add_zero]
        rw [up_ne (by omega)]
        exact m2 k f1 f2
    · rw [updM_ne (by omega), updM_eq, updM_ne (by omega), ce]
      by_cases d : k = key.toNat
      · subst d
        rw [if_neg (by omega), hcn]
        simp only [Nat.add_zero]
        rw [up_eq, up_eq]
      · rw [up_ne d] at f2 ⊢
        have f3 := hno k f1 f2
        have f4 := cnt_lt f1 f2
        rw [if_neg (by omega)]
        simp only [Nat.add_zero]
        rw [up_ne (by omega)]
        exact m3 k f1 f2
def mLook (A : Nat → Int) (R : Nat → Nat → Int) : Nat → Int :=
  if A 4 = 1 then (if A 1 < gr3 (A 20) (A 21) (A 22) then up A 4 2
    else if (A 20 = A 21 ∧ A 20 = A 22) ∧ A 5 ≤ A 20 then up (up A (925 + (A 20).toNat) (rwR R (A 20))) 5 (A 20 + 1)
    else if A 5 < gr3 (A 20) (A 21) (A 22) then up A 5 (gr3 (A 20) (A 21) (A 22)) else A) else A
/-- walkers that are not off stand on stones -/
def onS (A : Nat → Int) (R : Nat → Nat → Int) : Prop := ∀ w : Nat, w < 3 → A (20 + w) < 300 → 0 < R w (A (20 + w)).toNat
theorem onS_rw {R : Nat → Nat → Int} (h : onS A R) (hr : RunR A) (he : A 20 = A 21 ∧ A 20 = A 22) (hl : A 20 < 300) : 0 < rwR R (A 20) := by
  obtain ⟨b0, b1, b2⟩ := hr.b
  have h0 := h 0 (by omega) hl
  have h1 := h 1 (by omega) (by show A 21 < 300; omega)
  have h2 := h 2 (by omega) (by show A 22 < 300; omega)
  have e1 : A (20 + 1) = A 20 := he.1.symm
  have e2 : A (20 + 2) = A 20 := he.2.symm
  rw [e1] at h1
  rw [e2] at h2
  unfold rwR rv
  rw [if_pos ⟨b0.1, hl⟩, if_pos ⟨b0.1, hl⟩, if_pos ⟨b0.1, hl⟩]
  exact Int.mul_pos (Int.mul_pos h0 h1) h2
theorem s_lookRound {v : Nat} {R : Nat → Nat → Int} (hc : crs c) (hv : riv v) (hcv : c + 7 < v ∨ v + 9 < c) (h : CrossIs S c A) (hr : RunR A) (hR : RiverIs S v R) (h1 : 0 ≤ A 1 ∧ A 1 ≤ 299) (hon : A 4 = 1 → onS A R) : ∃ S', fX0_lookRound [vR c, vR v, vI (A 1)] S = some (none, S') ∧ CrossIs S' c (mLook A R) ∧ (∀ a, a < c ∨ c + 8 ≤ a → S' a = S a) := by
  obtain ⟨T, e1, e2, e3⟩ := s_endAbove hc h hr (hi := A 1) ⟨by omega, by omega⟩
  have hgo := s_goesOn hc e2
  obtain ⟨b0, b1, b2⟩ := hr.b
  have hg := gr3_s (A 20) (A 21) (A 22)
  have g5 := hr.1
  obtain ⟨⟨k0, k1, k2, k3, k4, k5, k6, k7⟩, a1, a2, a3, a4, a5, a6, a7⟩ := id hc
  rw [uX0_lookRound]
  by_cases hon4 : A 4 = 1
  · by_cases d : A 1 < gr3 (A 20) (A 21) (A 22)
    · have em : mOvr A (A 1) = up A 4 2 := by unfold mOvr; rw [if_pos ⟨hon4, d⟩]
      rw [em] at e2 hgo
      rw [up_eq, if_neg (by omega)] at hgo
      refine ⟨T, ?_, ?_, fun a ha => e3 a (by omega)⟩
      · simp (disch := omega) only [eX0_lookRound_0, eX0_lookRound_1, eX0_lookRound_2, eX0_lookRound_5, eX0_lookRound_6, eX0_lookRound_9, eX0_lookRound_12, eX0_lookRound_13, eX0_lookRound_14, eX0_lookRound_17, eX0_lookRound_18, eX0_lookRound_18x, eX0_lookRound_18y, eX0_lookRound_19, eX0_lookRound_20, eX0_lookRound_21, eX0_lookRound_22, eX0_lookRound_25, eX0_lookRound_26, eX0_lookRound_26x, eX0_lookRound_26y, eX0_lookRound_27, eX0_lookRound_30, eX0_lookRound_31, eX0_lookRound_32, eX0_lookRound_35, eX0_lookRound_36, eX0_lookRound_36x, eX0_lookRound_36y, eX0_lookRound_37, eX0_lookRound_40, eX0_lookRound_41, eX0_lookRound_42, eX0_lookRound_45, eX0_lookRound_48, eX0_lookRound_49, eX0_lookRound_50, eX0_lookRound_51, eX0_lookRound_52, eX0_lookRound_55, eX0_lookRound_58, eX0_lookRound_59, eX0_lookRound_60, eX0_lookRound_61, eX0_lookRound_62, eX0_lookRound_65, eX0_lookRound_68, eX0_lookRound_69, eX0_lookRound_70, eX0_lookRound_73, eX0_lookRound_74, eX0_lookRound_77, eX0_lookRound_80, eX0_lookRound_83, if_pos, if_neg, if_true, if_false, Option.bind_some, Option.toList_some, Option.toList_none, List.cons_append, List.nil_append, e1, hgo]
      · unfold mLook
        rw [if_pos hon4, if_pos d]
        exact e2
    · have em : mOvr A (A 1) = A := by unfold mOvr; rw [if_neg (fun q => d q.2)]
      rw [em] at e2 hgo
      rw [if_pos hon4] at hgo
      have t0 : T (c + 3) 0 = A 20 := e2.2.2.2.2.1 0 (by omega)
      have t1 : T (c + 3) 1 = A 21 := e2.2.2.2.2.1 1 (by omega)
      have t2 : T (c + 3) 2 = A 22 := e2.2.2.2.2.1 2 (by omega)
      have tg : T c 2 = A 5 := e2.2.1
      by_cases m : (A 20 = A 21 ∧ A 20 = A 22) ∧ A 5 ≤ A 20
      · obtain ⟨⟨m1, m2⟩, m3⟩ := m
        have hl : A 20 < 300 := by omega
        have hpos := onS_rw (hon hon4) hr ⟨m1, m2⟩ hl
        have hRT : RiverIs T v R := hR.rows (fun a q1 q2 => e3 a (by omega))
        obtain ⟨r0, -⟩ := id hv
        have hrow := s_rowsAt (S := T) (key := A 20) hv hRT ⟨by omega, by omega⟩
        obtain ⟨T2, f1, f2, f3, f4⟩ := s_meet (S := T) (key := A 20) (rows := rwR R (A 20)) hc e2.2.2.2.1 ⟨b0.1, hl⟩ hpos (fun k q1 q2 => by have := hr.2.2.2.1 k q1 q2; omega)
        refine ⟨updM T2 c 2 (A 20 + 1), ?_, ?_, fun a ha => by rw [updM_ne (by omega), f4 a (by omega) (by omega) (by omega), e3 a (by omega)]⟩
        · simp (disch := omega) only [eX0_lookRound_0, eX0_lookRound_1, eX0_lookRound_2, eX0_lookRound_5, eX0_lookRound_6, eX0_lookRound_9, eX0_lookRound_12, eX0_lookRound_13, eX0_lookRound_14, eX0_lookRound_17, eX0_lookRound_18, eX0_lookRound_18x, eX0_lookRound_18y, eX0_lookRound_19, eX0_lookRound_20, eX0_lookRound_21, eX0_lookRound_22, eX0_lookRound_25, eX0_lookRound_26, eX0_lookRound_26x, eX0_lookRound_26y, eX0_lookRound_27, eX0_lookRound_30, eX0_lookRound_31, eX0_lookRound_32, eX0_lookRound_35, eX0_lookRound_36, eX0_lookRound_36x, eX0_lookRound_36y, eX0_lookRound_37, eX0_lookRound_40, eX0_lookRound_41, eX0_lookRound_42, eX0_lookRound_45, eX0_lookRound_48, eX0_lookRound_49, eX0_lookRound_50, eX0_lookRound_51, eX0_lookRound_52, eX0_lookRound_55, eX0_lookRound_58, eX0_lookRound_59, eX0_lookRound_60, eX0_lookRound_61, eX0_lookRound_62, eX0_lookRound_65, eX0_lookRound_68, eX0_lookRound_69, eX0_lookRound_70, eX0_lookRound_73, eX0_lookRound_74, eX0_lookRound_77, eX0_lookRound_80, eX0_lookRound_83, if_pos, if_neg, if_true, if_false, Option.bind_some, Option.toList_some, Option.toList_none, List.cons_append, List.nil_append, e1, hgo, tn0, tn1, tn2, t0, t1, t2, tg, hrow, f1]
        · unfold mLook
          rw [if_pos hon4, if_neg d, if_pos ⟨⟨m1, m2⟩, m3⟩]
          obtain ⟨g1, g2, g3, gm, s1, s2, s3, s4, s5⟩ := e2
          have eM : ∀ k, MetA (up (up A (925 + (A 20).toNat) (rwR R (A 20))) 5 (A 20 + 1)) k = up (MetA A) (A 20).toNat (rwR R (A 20)) k := by
            intro k
            unfold MetA
            rw [up_ne (by omega)]
            unfold up
            by_cases y : k = (A 20).toNat
            · rw [if_pos y, if_pos (by omega)]
            · rw [if_neg y, if_neg (by omega)]
          have eM2 : MetA (up (up A (925 + (A 20).toNat) (rwR R (A 20))) 5 (A 20 + 1)) = up (MetA A) (A 20).toNat (rwR R (A 20)) := funext eM
          unfold CrossIs flg tri
          rw [eM2]
          refine ⟨?_, by rw [updM_eq, up_eq, up_eq], by rw [updM_eq, up_ne (by omega), f3 3 (by omega), up_ne (by omega), up_ne (by omega)]; exact g3, ⟨by rw [updM_eq, up_ne (by omega)]; exact f2.1, by rw [updM_ne (by omega)]; exact f2.2.1, by rw [updM_ne (by omega)]; exact f2.2.2⟩, ?_, ?_, ?_, ?_, ?_⟩
          · rw [updM_eq, up_ne (by omega), up_ne (by omega), up_ne (by omega), up_ne (by omega), f3 0 (by omega), f3 1 (by omega)]
            exact g1
          · intro w hw; rw [updM_ne (by omega), f4 _ (by omega) (by omega) (by omega), up_ne (by omega), up_ne (by omega)]; exact s1 w hw
          · intro w hw; rw [updM_ne (by omega), f4 _ (by omega) (by omega) (by omega), up_ne (by omega), up_ne (by omega)]; exact s2 w hw
          · intro w hw; rw [updM_ne (by omega), f4 _ (by omega) (by omega) (by omega), up_ne (by omega), up_ne (by omega)]; exact s3 w hw
          · intro w hw; rw [updM_ne (by omega), f4 _ (by omega) (by omega) (by omega), up_ne (by omega), up_ne (by omega)]; exact s4 w hw
          · intro w hw; rw [updM_ne (by omega), f4 _ (by omega) (by omega) (by omega), up_ne (by omega), up_ne (by omega)]; exact s5 w hw
      · have hk := s_highestKey hc e2 hr
        have hmx := s_max (S := T) (a := A 5) (b := gr3 (A 20) (A 21) (A 22)) ⟨by omega, by omega⟩ ⟨by omega, by omega⟩
        have eC : CrossIs (updM T c 2 (if A 5 < gr3 (A 20) (A 21) (A 22) then gr3 (A 20) (A 21) (A 22) else A 5)) c (mLook A R) := by
          unfold mLook
          rw [if_pos hon4, if_neg d, if_neg m]
          obtain ⟨g1, g2, g3, gm, s1, s2, s3, s4, s5⟩ := e2
          generalize gr3 (A 20) (A 21) (A 22) = g
          have hA : ∀ k, k ≠ 5 → (if A 5 < g then up A 5 g else A) k = A k := by
            intro k hk
            split
            · rw [up_ne hk]
            · rfl
          have hA5 : (if A 5 < g then up A 5 g else A) 5 = (if A 5 < g then g else A 5) := by
            split
            · rw [up_eq]
            · rfl
          have base : CrossIs (updM T c 2 (if A 5 < g then g else A 5)) c (up A 5 (if A 5 < g then g else A 5)) := by
            unfold CrossIs flg mtg tri
            rw [MetA_up (show 5 < 925 by omega), updM_eq, updM_ne (by omega), updM_ne (by omega), updM_ne (by omega), updM_ne (by omega), updM_ne (by omega), updM_ne (by omega), updM_ne (by omega)]
            refine ⟨by rw [up_ne (by omega), up_ne (by omega), up_ne (by omega)]; exact g1, by rw [up_eq, up_eq], by rw [up_ne (by omega), up_ne (by omega)]; exact g3, ⟨by rw [up_ne (by omega)]; exact gm.1, gm.2.1, gm.2.2⟩, fun w hw => by rw [up_ne (by omega)]; exact s1 w hw, fun w hw => by rw [up_ne (by omega)]; exact s2 w hw, fun w hw => by rw [up_ne (by omega)]; exact s3 w hw, fun w hw => by rw [up_ne (by omega)]; exact s4 w hw, fun w hw => by rw [up_ne (by omega)]; exact s5 w hw⟩
          refine base.congr (fun k y1 y2 y3 => ?_) (fun k y1 y2 => ?_)
          · by_cases y : k = 5
            · rw [y, hA5, up_eq]
            · rw [hA k y, up_ne y]
          · rw [hA k (by omega), up_ne (by omega)]
        refine ⟨_, ?_, eC, fun a ha => by rw [updM_ne (by omega), e3 a (by omega)]⟩
        by_cases n1 : A 20 = A 21
        · by_cases n2 : A 20 = A 22
          · simp (disch := omega) only [eX0_lookRound_0, eX0_lookRound_1, eX0_lookRound_2, eX0_lookRound_5, eX0_lookRound_6, eX0_lookRound_9, eX0_lookRound_12, eX0_lookRound_13, eX0_lookRound_14, eX0_lookRound_17, eX0_lookRound_18, eX0_lookRound_18x, eX0_lookRound_18y, eX0_lookRound_19, eX0_lookRound_20, eX0_lookRound_21, eX0_lookRound_22, eX0_lookRound_25, eX0_lookRound_26, eX0_lookRound_26x, eX0_lookRound_26y, eX0_lookRound_27, eX0_lookRound_30, eX0_lookRound_31, eX0_lookRound_32, eX0_lookRound_35, eX0_lookRound_36, eX0_lookRound_36x, eX0_lookRound_36y, eX0_lookRound_37, eX0_lookRound_40, eX0_lookRound_41, eX0_lookRound_42, eX0_lookRound_45, eX0_lookRound_48, eX0_lookRound_49, eX0_lookRound_50, eX0_lookRound_51, eX0_lookRound_52, eX0_lookRound_55, eX0_lookRound_58, eX0_lookRound_59, eX0_lookRound_60, eX0_lookRound_61, eX0_lookRound_62, eX0_lookRound_65, eX0_lookRound_68, eX0_lookRound_69, eX0_lookRound_70, eX0_lookRound_73, eX0_lookRound_74, eX0_lookRound_77, eX0_lookRound_80, eX0_lookRound_83, if_pos, if_neg, if_true, if_false, Option.bind_some, Option.toList_some, Option.toList_none, List.cons_append, List.nil_append, e1, hgo, tn0, tn1, tn2, t0, t1, t2, tg, hk, hmx]
          · simp (disch := omega) only [eX0_lookRound_0, eX0_lookRound_1, eX0_lookRound_2, eX0_lookRound_5, eX0_lookRound_6, eX0_lookRound_9, eX0_lookRound_12, eX0_lookRound_13, eX0_lookRound_14, eX0_lookRound_17, eX0_lookRound_18, eX0_lookRound_18x, eX0_lookRound_18y, eX0_lookRound_19, eX0_lookRound_20, eX0_lookRound_21, eX0_lookRound_22, eX0_lookRound_25, eX0_lookRound_26, eX0_lookRound_26x, eX0_lookRound_26y, eX0_lookRound_27, eX0_lookRound_30, eX0_lookRound_31, eX0_lookRound_32, eX0_lookRound_35, eX0_lookRound_36, eX0_lookRound_36x, eX0_lookRound_36y, eX0_lookRound_37, eX0_lookRound_40, eX0_lookRound_41, eX0_lookRound_42, eX0_lookRound_45, eX0_lookRound_48, eX0_lookRound_49, eX0_lookRound_50, eX0_lookRound_51, eX0_lookRound_52, eX0_lookRound_55, eX0_lookRound_58, eX0_lookRound_59, eX0_lookRound_60, eX0_lookRound_61, eX0_lookRound_62, eX0_lookRound_65, eX0_lookRound_68, eX0_lookRound_69, eX0_lookRound_70, eX0_lookRound_73, eX0_lookRound_74, eX0_lookRound_77, eX0_lookRound_80, eX0_lookRound_83, if_pos, if_neg, if_true, if_false, Option.bind_some, Option.toList_some, Option.toList_none, List.cons_append, List.nil_append, e1, hgo, tn0, tn1, tn2, t0, t1, t2, tg, hk, hmx]
        · simp (disch := omega) only [eX0_lookRound_0, eX0_lookRound_1, eX0_lookRound_2, eX0_lookRound_5, eX0_lookRound_6, eX0_lookRound_9, eX0_lookRound_12, eX0_lookRound_13, eX0_lookRound_14, eX0_lookRound_17, eX0_lookRound_18, eX0_lookRound_18x, eX0_lookRound_18y, eX0_lookRound_19, eX0_lookRound_20, eX0_lookRound_21, eX0_lookRound_22, eX0_lookRound_25, eX0_lookRound_26, eX0_lookRound_26x, eX0_lookRound_26y, eX0_lookRound_27, eX0_lookRound_30, eX0_lookRound_31, eX0_lookRound_32, eX0_lookRound_35, eX0_lookRound_36, eX0_lookRound_36x, eX0_lookRound_36y, eX0_lookRound_37, eX0_lookRound_40, eX0_lookRound_41, eX0_lookRound_42, eX0_lookRound_45, eX0_lookRound_48, eX0_lookRound_49, eX0_lookRound_50, eX0_lookRound_51, eX0_lookRound_52, eX0_lookRound_55, eX0_lookRound_58, eX0_lookRound_59, eX0_lookRound_60, eX0_lookRound_61, eX0_lookRound_62, eX0_lookRound_65, eX0_lookRound_68, eX0_lookRound_69, eX0_lookRound_70, eX0_lookRound_73, eX0_lookRound_74, eX0_lookRound_77, eX0_lookRound_80, eX0_lookRound_83, if_pos, if_neg, if_true, if_false, Option.bind_some, Option.toList_some, Option.toList_none, List.cons_append, List.nil_append, e1, hgo, tn0, tn1, tn2, t0, t1, t2, tg, hk, hmx]
  · have em : mOvr A (A 1) = A := by unfold mOvr; rw [if_neg (fun q => hon4 q.1)]
    rw [em] at e2 hgo
    rw [if_neg hon4] at hgo
    refine ⟨T, ?_, ?_, fun a ha => e3 a (by omega)⟩
    · simp (disch := omega) only [eX0_lookRound_0, eX0_lookRound_1, eX0_lookRound_2, eX0_lookRound_5, eX0_lookRound_6, eX0_lookRound_9, eX0_lookRound_12, eX0_lookRound_13, eX0_lookRound_14, eX0_lookRound_17, eX0_lookRound_18, eX0_lookRound_18x, eX0_lookRound_18y, eX0_lookRound_19, eX0_lookRound_20, eX0_lookRound_21, eX0_lookRound_22, eX0_lookRound_25, eX0_lookRound_26, eX0_lookRound_26x, eX0_lookRound_26y, eX0_lookRound_27, eX0_lookRound_30, eX0_lookRound_31, eX0_lookRound_32, eX0_lookRound_35, eX0_lookRound_36, eX0_lookRound_36x, eX0_lookRound_36y, eX0_lookRound_37, eX0_lookRound_40, eX0_lookRound_41, eX0_lookRound_42, eX0_lookRound_45, eX0_lookRound_48, eX0_lookRound_49, eX0_lookRound_50, eX0_lookRound_51, eX0_lookRound_52, eX0_lookRound_55, eX0_lookRound_58, eX0_lookRound_59, eX0_lookRound_60, eX0_lookRound_61, eX0_lookRound_62, eX0_lookRound_65, eX0_lookRound_68, eX0_lookRound_69, eX0_lookRound_70, eX0_lookRound_73, eX0_lookRound_74, eX0_lookRound_77, eX0_lookRound_80, eX0_lookRound_83, if_pos, if_neg, if_true, if_false, Option.bind_some, Option.toList_some, Option.toList_none, List.cons_append, List.nil_append, e1, hgo]
    · unfold mLook
      rw [if_neg hon4]
      exact e2
end CRS
