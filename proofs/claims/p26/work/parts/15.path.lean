/-! stones given back; copies; looks -/
theorem s_min {a b : Int} {S : MM} (ha : rng a) (hb : rng b) : f_min [vI a, vI b] S = some (some (vI (if b < a then b else a)), S) := by
  simp only [f_min]
  rw [if_pos ⟨ha, hb⟩]
theorem s_max {a b : Int} {S : MM} (ha : rng a) (hb : rng b) : f_max [vI a, vI b] S = some (some (vI (if a < b then b else a)), S) := by
  simp only [f_max]
  rw [if_pos ⟨ha, hb⟩]
/-- what there is when stones are given back to those that are there -/
def mrg (r ro : Nat → Int) : Nat → Int := fun k => if 0 < ro k then (if 9 < r k + ro k then 9 else r k + ro k) else r k
def adds (r ro : Nat → Int) : Nat → Int := fun k => if 0 < ro k ∧ ¬ 0 < r k then 1 else 0
theorem cnt_mrg {r ro : Nat → Int} (hr : ∀ k, k < 300 → 0 ≤ r k ∧ r k ≤ 9) : ∀ m, m ≤ 300 → cnt (mrg r ro) m = cnt r m + cnt (adds r ro) m
  | 0, _ => rfl
  | m + 1, h => by
    have h1 := hr m (by omega)
    rw [cnt_s, cnt_s, cnt_s, cnt_mrg hr m (by omega)]
    have e1 : (0 < mrg r ro m) ↔ (0 < r m ∨ 0 < ro m) := by
      unfold mrg
      split
      · split <;> omega
      · omega
    have e2 : (0 < adds r ro m) ↔ (0 < ro m ∧ ¬ 0 < r m) := by
      unfold adds
      split
      · next h => exact ⟨fun _ => h, fun _ => by omega⟩
      · next h => exact ⟨fun q => absurd q (by omega), fun q => absurd q h⟩
    by_cases c : 0 < r m
    · rw [if_pos c, if_pos (e1.mpr (Or.inl c)), if_neg (fun q => (e2.mp q).2 c)]
      omega
    · by_cases d : 0 < ro m
      · rw [if_neg c, if_pos (e1.mpr (Or.inr d)), if_pos (e2.mpr ⟨d, c⟩)]
        omega
      · rw [if_neg c, if_neg (fun q => by rcases e1.mp q with q | q <;> omega), if_neg (fun q => d (e2.mp q).1)]
        omega
theorem l_roomAll {S : MM} {p o : Nat} {r ro : Nat → Int} (hp : pth p) (ho : pth o) (h : PathIs S p r) (h2 : PathIs S o ro) : ∀ (f i b : Nat), i + f = cnt ro 300 → cnt ro b = i → b ≤ 300 → rn xX3_hasRoomForAll (7, [some (vR p), some (vR o), some (vI (cnt r 300 + cnt (adds r ro) b)), some (vI i)], [], S) = some (some (vI (if cnt r 300 + cnt (adds r ro) 300 ≤ 40 then 1 else 0)), S) := by
  obtain ⟨k0, k1, k2, a1, a2⟩ := id hp
  obtain ⟨o0, o1, o2, b1, b2⟩ := id ho
  obtain ⟨h0, h40, hE, hV, hr⟩ := id h
  obtain ⟨g0, g40, gE, gV, gr⟩ := id h2
  have hsub : ∀ m, cnt (adds r ro) m ≤ cnt ro m := fun m => cnt_sub (fun k _ hk => by
    unfold adds at hk
    split at hk
    · next q => exact q.1
    · omega)
  intro f
  induction f with
  | zero =>
    intro i b e1 e2 e3
    have hs := hsub 300
    have hc : cnt (adds r ro) 300 = cnt (adds r ro) b := by
      refine cnt_skip e3 (fun j q1 q2 q3 => ?_)
      unfold adds at q3
      split at q3
      · next q =>
        have y1 := cnt_mono ro q1
        have y2 := cnt_lt q2 q.1
        omega
      · omega
    rw [eX3_hasRoomForAll_7]
    simp (disch := omega) only [eX3_hasRoomForAll_0, eX3_hasRoomForAll_1, eX3_hasRoomForAll_4, eX3_hasRoomForAll_5, eX3_hasRoomForAll_6, eX3_hasRoomForAll_8, eX3_hasRoomForAll_9, eX3_hasRoomForAll_12, eX3_hasRoomForAll_15, eX3_hasRoomForAll_16, eX3_hasRoomForAll_17, eX3_hasRoomForAll_20, eX3_hasRoomForAll_21, eX3_hasRoomForAll_21x, eX3_hasRoomForAll_21y, eX3_hasRoomForAll_22, eX3_hasRoomForAll_25, eX3_hasRoomForAll_28, eX3_hasRoomForAll_31, eX3_hasRoomForAll_34, eX3_hasRoomForAll_37, eX3_hasRoomForAll_38, eX3_hasRoomForAll_40, eX3_hasRoomForAll_43, eX3_hasRoomForAll_44, eX3_hasRoomForAll_47, eX3_hasRoomForAll_48, if_pos, if_neg, if_true, if_false, Option.bind_some, Option.toList_some, Option.toList_none, List.cons_append, List.nil_append]
    rw [hc]
    by_cases c : cnt r 300 + cnt (adds r ro) b ≤ 40
    · rw [if_neg (by omega), if_pos c]
    · rw [if_pos (by omega), if_neg c]
  | succ f ih =>
    intro i b e1 e2 e3
    have hs := hsub 300
    have hsb := cnt_mono (adds r ro) e3
    obtain ⟨k, q1, q2, q3, q4, q5, q6⟩ := cnt_next e2 (by omega)
    have eK : S (o + 1) i = (k : Int) := by rw [← q3]; exact gE k q1 q2
    have hsk : cnt (adds r ro) k = cnt (adds r ro) b := cnt_skip q4 (fun j w1 w2 w3 => by
      unfold adds at w3
      split at w3
      · next q => exact q5 j w1 w2 q.1
      · omega)
    have ih := ih (i + 1) (k + 1) (by omega) q6 (by omega)
    have ei : ((i : Int) + 1) = ((i + 1 : Nat) : Int) := by omega
    have hrv := rv_in (r := r) q1
    have hh := s_has hp h (key := (k : Int)) ⟨by omega, by omega⟩
    rw [hrv] at hh
    rw [eX3_hasRoomForAll_7]
    by_cases c : 0 < r k
    · have ea : cnt (adds r ro) (k + 1) = cnt (adds r ro) b := by
        rw [cnt_s0 (by unfold adds; rw [if_neg (fun q => q.2 c)]; omega), hsk]
      rw [ea] at ih
      rw [if_pos c] at hh
      simp (disch := omega) only [eX3_hasRoomForAll_0, eX3_hasRoomForAll_1, eX3_hasRoomForAll_4, eX3_hasRoomForAll_5, eX3_hasRoomForAll_6, eX3_hasRoomForAll_8, eX3_hasRoomForAll_9, eX3_hasRoomForAll_12, eX3_hasRoomForAll_15, eX3_hasRoomForAll_16, eX3_hasRoomForAll_17, eX3_hasRoomForAll_20, eX3_hasRoomForAll_21, eX3_hasRoomForAll_21x, eX3_hasRoomForAll_21y, eX3_hasRoomForAll_22, eX3_hasRoomForAll_25, eX3_hasRoomForAll_28, eX3_hasRoomForAll_31, eX3_hasRoomForAll_34, eX3_hasRoomForAll_37, eX3_hasRoomForAll_38, eX3_hasRoomForAll_40, eX3_hasRoomForAll_43, eX3_hasRoomForAll_44, eX3_hasRoomForAll_47, eX3_hasRoomForAll_48, if_pos, if_neg, if_true, if_false, Option.bind_some, Option.toList_some, Option.toList_none, List.cons_append, List.nil_append, Int.toNat_natCast]
      rw [eK, hh]
      simp (disch := omega) only [eX3_hasRoomForAll_0, eX3_hasRoomForAll_1, eX3_hasRoomForAll_4, eX3_hasRoomForAll_5, eX3_hasRoomForAll_6, eX3_hasRoomForAll_8, eX3_hasRoomForAll_9, eX3_hasRoomForAll_12, eX3_hasRoomForAll_15, eX3_hasRoomForAll_16, eX3_hasRoomForAll_17, eX3_hasRoomForAll_20, eX3_hasRoomForAll_21, eX3_hasRoomForAll_21x, eX3_hasRoomForAll_21y, eX3_hasRoomForAll_22, eX3_hasRoomForAll_25, eX3_hasRoomForAll_28, eX3_hasRoomForAll_31, eX3_hasRoomForAll_34, eX3_hasRoomForAll_37, eX3_hasRoomForAll_38, eX3_hasRoomForAll_40, eX3_hasRoomForAll_43, eX3_hasRoomForAll_44, eX3_hasRoomForAll_47, eX3_hasRoomForAll_48, if_pos, if_neg, if_true, if_false, Option.bind_some, Option.toList_some, Option.toList_none, List.cons_append, List.nil_append]
      rw [ei]
      exact ih
    · have ea : cnt (adds r ro) (k + 1) = cnt (adds r ro) b + 1 := by
        rw [cnt_s1 (by unfold adds; rw [if_pos ⟨q2, c⟩]; omega), hsk]
      rw [ea] at ih
      rw [if_neg c] at hh
      simp (disch := omega) only [eX3_hasRoomForAll_0, eX3_hasRoomForAll_1, eX3_hasRoomForAll_4, eX3_hasRoomForAll_5, eX3_hasRoomForAll_6, eX3_hasRoomForAll_8, eX3_hasRoomForAll_9, eX3_hasRoomForAll_12, eX3_hasRoomForAll_15, eX3_hasRoomForAll_16, eX3_hasRoomForAll_17, eX3_hasRoomForAll_20, eX3_hasRoomForAll_21, eX3_hasRoomForAll_21x, eX3_hasRoomForAll_21y, eX3_hasRoomForAll_22, eX3_hasRoomForAll_25, eX3_hasRoomForAll_28, eX3_hasRoomForAll_31, eX3_hasRoomForAll_34, eX3_hasRoomForAll_37, eX3_hasRoomForAll_38, eX3_hasRoomForAll_40, eX3_hasRoomForAll_43, eX3_hasRoomForAll_44, eX3_hasRoomForAll_47, eX3_hasRoomForAll_48, if_pos, if_neg, if_true, if_false, Option.bind_some, Option.toList_some, Option.toList_none, List.cons_append, List.nil_append, Int.toNat_natCast]
      rw [eK, hh]
      simp (disch := omega) only [eX3_hasRoomForAll_0, eX3_hasRoomForAll_1, eX3_hasRoomForAll_4, eX3_hasRoomForAll_5, eX3_hasRoomForAll_6, eX3_hasRoomForAll_8, eX3_hasRoomForAll_9, eX3_hasRoomForAll_12, eX3_hasRoomForAll_15, eX3_hasRoomForAll_16, eX3_hasRoomForAll_17, eX3_hasRoomForAll_20, eX3_hasRoomForAll_21, eX3_hasRoomForAll_21x, eX3_hasRoomForAll_21y, eX3_hasRoomForAll_22, eX3_hasRoomForAll_25, eX3_hasRoomForAll_28, eX3_hasRoomForAll_31, eX3_hasRoomForAll_34, eX3_hasRoomForAll_37, eX3_hasRoomForAll_38, eX3_hasRoomForAll_40, eX3_hasRoomForAll_43, eX3_hasRoomForAll_44, eX3_hasRoomForAll_47, eX3_hasRoomForAll_48, if_pos, if_neg, if_true, if_false, Option.bind_some, Option.toList_some, Option.toList_none, List.cons_append, List.nil_append]
      rw [ei, show ((cnt r 300 : Int) + cnt (adds r ro) b + 1) = (cnt r 300 : Int) + ((cnt (adds r ro) b + 1 : Nat) : Int) by omega]
      exact ih
theorem s_hasRoomForAll {S : MM} {p o : Nat} {r ro : Nat → Int} (hp : pth p) (ho : pth o) (h : PathIs S p r) (h2 : PathIs S o ro) : fX3_hasRoomForAll [vR p, vR o] S = some (some (vI (if cnt r 300 + cnt (adds r ro) 300 ≤ 40 then 1 else 0)), S) := by
  obtain ⟨k0, -⟩ := id hp
  rw [uX3_hasRoomForAll]
  simp (disch := omega) only [eX3_hasRoomForAll_0, eX3_hasRoomForAll_1, eX3_hasRoomForAll_4, eX3_hasRoomForAll_5, eX3_hasRoomForAll_6, eX3_hasRoomForAll_8, eX3_hasRoomForAll_9, eX3_hasRoomForAll_12, eX3_hasRoomForAll_15, eX3_hasRoomForAll_16, eX3_hasRoomForAll_17, eX3_hasRoomForAll_20, eX3_hasRoomForAll_21, eX3_hasRoomForAll_21x, eX3_hasRoomForAll_21y, eX3_hasRoomForAll_22, eX3_hasRoomForAll_25, eX3_hasRoomForAll_28, eX3_hasRoomForAll_31, eX3_hasRoomForAll_34, eX3_hasRoomForAll_37, eX3_hasRoomForAll_38, eX3_hasRoomForAll_40, eX3_hasRoomForAll_43, eX3_hasRoomForAll_44, eX3_hasRoomForAll_47, eX3_hasRoomForAll_48, if_pos, if_neg, if_true, if_false, Option.bind_some, Option.toList_some, Option.toList_none, List.cons_append, List.nil_append]
  rw [h.1]
  have hh := l_roomAll hp ho h h2 (cnt ro 300) 0 0 (by omega) rfl (by omega)
  have hz : ((cnt r 300 : Int) + ((cnt (adds r ro) 0 : Nat) : Int)) = cnt r 300 := by
    have : cnt (adds r ro) 0 = 0 := rfl
    omega
  rw [hz] at hh
  exact hh
theorem l_addAll {S : MM} {p o : Nat} {r ro : Nat → Int} (hp : pth p) (ho : pth o) (hpo : o + 2 < p ∨ p + 2 < o) (hr : ∀ k, k < 300 → 0 ≤ r k ∧ r k ≤ 9) (h2 : PathIs S o ro) (hroom : cnt (mrg r ro) 300 ≤ 40) : ∀ (f i b : Nat) (T : MM) (x : Option VV), i + f = cnt ro 300 → cnt ro b = i → b ≤ 300 → PathIs T p (fun k => if k < b then mrg r ro k else r k) → (∀ a, a ≠ p → a ≠ p + 1 → a ≠ p + 2 → T a = S a) →
    ∃ S', rn xX3_addAll (2, [some (vR p), some (vR o), some (vI i), x], [], T) = some (none, S') ∧ PathIs S' p (mrg r ro) ∧ (∀ a, a ≠ p → a ≠ p + 1 → a ≠ p + 2 → S' a = S a) := by
  obtain ⟨k0, k1, k2, a1, a2⟩ := id hp
  obtain ⟨o0, o1, o2, b1, b2⟩ := id ho
  obtain ⟨g0, g40, gE, gV, gr⟩ := id h2
  intro f
  induction f with
  | zero =>
    intro i b T x e1 e2 e3 e4 e5
    have eo := e5 o (by omega) (by omega) (by omega)
    refine ⟨T, ?_, e4.congr (fun k hk => ?_), e5⟩
    · have : T o 2 = (cnt ro 300 : Int) := by rw [eo]; exact g0
      rw [eX3_addAll_2]
      simp (disch := omega) only [eX3_addAll_0, eX3_addAll_1, eX3_addAll_3, eX3_addAll_4, eX3_addAll_7, eX3_addAll_10, eX3_addAll_11, eX3_addAll_14, eX3_addAll_15, eX3_addAll_15x, eX3_addAll_15y, eX3_addAll_16, eX3_addAll_17, eX3_addAll_18, eX3_addAll_19, eX3_addAll_21, eX3_addAll_22, eX3_addAll_23, eX3_addAll_26, eX3_addAll_27, eX3_addAll_30, eX3_addAll_31, eX3_addAll_31x, eX3_addAll_31y, eX3_addAll_32, eX3_addAll_33, eX3_addAll_36, eX3_addAll_39, eX3_addAll_42, eX3_addAll_45, if_pos, if_neg, if_true, if_false, Option.bind_some, Option.toList_some, Option.toList_none, List.cons_append, List.nil_append]
    · by_cases c : k < b
      · rw [if_pos c]
      · rw [if_neg c]
        unfold mrg
        rw [if_neg (fun q => by
          have y1 := cnt_mono ro (show b ≤ k by omega)
          have y2 := cnt_lt hk q
          omega)]
  | succ f ih =>
    intro i b T x e1 e2 e3 e4 e5
    have eo := e5 o (by omega) (by omega) (by omega)
    have eo1 := e5 (o + 1) (by omega) (by omega) (by omega)
    have eo2 := e5 (o + 2) (by omega) (by omega) (by omega)
    have hto : T o 2 = (cnt ro 300 : Int) := by rw [eo]; exact g0
    obtain ⟨k, q1, q2, q3, q4, q5, q6⟩ := cnt_next e2 (by omega)
    have eK : T (o + 1) i = (k : Int) := by rw [eo1, ← q3]; exact gE k q1 q2
    have eV : T (o + 2) i = ro k := by rw [eo2, ← q3]; exact gV k q1 q2
    have hrk := hr k q1
    have hok := gr k q1
    have hrep := s_repeatsOf hp e4 (key := (k : Int)) ⟨by omega, by omega⟩
    rw [rv_in q1, if_neg (show ¬ k < b by omega)] at hrep
    have hmin := s_min (S := T) (a := 9) (b := r k + ro k) ⟨by omega, by omega⟩ ⟨by omega, by omega⟩
    have htm : 1 ≤ (if r k + ro k < 9 then r k + ro k else 9) ∧ (if r k + ro k < 9 then r k + ro k else 9) ≤ 9 := by split <;> omega
    have hrm : 0 < (fun k => if k < b then mrg r ro k else r k) (k : Int).toNat ∨ cnt (fun k => if k < b then mrg r ro k else r k) 300 < 40 := by
      rw [Int.toNat_natCast]
      by_cases c : 0 < r k
      · left
        show 0 < (if k < b then mrg r ro k else r k)
        rw [if_neg (by omega)]
        exact c
      · right
        refine Nat.lt_of_lt_of_le (cnt_sub_lt (r' := mrg r ro) (a := k) (fun j hj w => ?_) q1 ?_ ?_) hroom
        · have y := hr j hj
          have w : 0 < (if j < b then mrg r ro j else r j) := w
          split at w
          · exact w
          · unfold mrg
            split
            · split <;> omega
            · exact w
        · unfold mrg
          rw [if_pos q2]
          split <;> omega
        · show ¬ 0 < (if k < b then mrg r ro k else r k)
          rw [if_neg (by omega)]
          exact c
    obtain ⟨T', w1, w2, w3⟩ := s_pathLay hp e4 (key := (k : Int)) (by omega) htm hrm
    obtain ⟨S', y1, y2⟩ := ih (i + 1) (k + 1) T' (some (vI k)) (by omega) q6 (by omega) (w2.congr (fun j hj => by
      show (if j < k + 1 then mrg r ro j else r j) = up _ _ _ j
      rw [Int.toNat_natCast]
      by_cases d : j = k
      · subst d
        rw [if_pos (by omega), up_eq]
        unfold mrg
        rw [if_pos q2]
        by_cases z : r j + ro j < 9
        · rw [if_pos z, if_neg (by omega)]
        · rw [if_neg z]
          split <;> omega
      · rw [up_ne d]
        by_cases d2 : j < b
        · rw [if_pos d2, if_pos (by omega)]
        · rw [if_neg d2]
          by_cases d3 : j < k + 1
          · rw [if_pos d3]
            unfold mrg
            rw [if_neg (q5 j (by omega) (by omega))]
          · rw [if_neg d3])) (fun a z1 z2 z3 => by rw [w3 a z1 z2 z3]; exact e5 a z1 z2 z3)
    refine ⟨S', ?_, y2⟩
    rw [← y1, eX3_addAll_2]
    simp (disch := omega) only [eX3_addAll_0, eX3_addAll_1, eX3_addAll_3, eX3_addAll_4, eX3_addAll_7, eX3_addAll_10, eX3_addAll_11, eX3_addAll_14, eX3_addAll_15, eX3_addAll_15x, eX3_addAll_15y, eX3_addAll_16, eX3_addAll_17, eX3_addAll_18, eX3_addAll_19, eX3_addAll_21, eX3_addAll_22, eX3_addAll_23, eX3_addAll_26, eX3_addAll_27, eX3_addAll_30, eX3_addAll_31, eX3_addAll_31x, eX3_addAll_31y, eX3_addAll_32, eX3_addAll_33, eX3_addAll_36, eX3_addAll_39, eX3_addAll_42, eX3_addAll_45, if_pos, if_neg, if_true, if_false, Option.bind_some, Option.toList_some, Option.toList_none, List.cons_append, List.nil_append, Int.toNat_natCast]
    rw [eK]
    simp (disch := omega) only [eX3_addAll_0, eX3_addAll_1, eX3_addAll_3, eX3_addAll_4, eX3_addAll_7, eX3_addAll_10, eX3_addAll_11, eX3_addAll_14, eX3_addAll_15, eX3_addAll_15x, eX3_addAll_15y, eX3_addAll_16, eX3_addAll_17, eX3_addAll_18, eX3_addAll_19, eX3_addAll_21, eX3_addAll_22, eX3_addAll_23, eX3_addAll_26, eX3_addAll_27, eX3_addAll_30, eX3_addAll_31, eX3_addAll_31x, eX3_addAll_31y, eX3_addAll_32, eX3_addAll_33, eX3_addAll_36, eX3_addAll_39, eX3_addAll_42, eX3_addAll_45, if_pos, if_neg, if_true, if_false, Option.bind_some, Option.toList_some, Option.toList_none, List.cons_append, List.nil_append, hrep, Int.toNat_natCast]
    rw [eV, hmin]
    simp (disch := omega) only [eX3_addAll_0, eX3_addAll_1, eX3_addAll_3, eX3_addAll_4, eX3_addAll_7, eX3_addAll_10, eX3_addAll_11, eX3_addAll_14, eX3_addAll_15, eX3_addAll_15x, eX3_addAll_15y, eX3_addAll_16, eX3_addAll_17, eX3_addAll_18, eX3_addAll_19, eX3_addAll_21, eX3_addAll_22, eX3_addAll_23, eX3_addAll_26, eX3_addAll_27, eX3_addAll_30, eX3_addAll_31, eX3_addAll_31x, eX3_addAll_31y, eX3_addAll_32, eX3_addAll_33, eX3_addAll_36, eX3_addAll_39, eX3_addAll_42, eX3_addAll_45, if_pos, if_neg, if_true, if_false, Option.bind_some, Option.toList_some, Option.toList_none, List.cons_append, List.nil_append]
    rw [w1]
    simp (disch := omega) only [eX3_addAll_0, eX3_addAll_1, eX3_addAll_3, eX3_addAll_4, eX3_addAll_7, eX3_addAll_10, eX3_addAll_11, eX3_addAll_14, eX3_addAll_15, eX3_addAll_15x, eX3_addAll_15y, eX3_addAll_16, eX3_addAll_17, eX3_addAll_18, eX3_addAll_19, eX3_addAll_21, eX3_addAll_22, eX3_addAll_23, eX3_addAll_26, eX3_addAll_27, eX3_addAll_30, eX3_addAll_31, eX3_addAll_31x, eX3_addAll_31y, eX3_addAll_32, eX3_addAll_33, eX3_addAll_36, eX3_addAll_39, eX3_addAll_42, eX3_addAll_45, if_pos, if_neg, if_true, if_false, Option.bind_some, Option.toList_some, Option.toList_none, List.cons_append, List.nil_append]
    rw [show ((i : Int) + 1) = ((i + 1 : Nat) : Int) by omega]
theorem s_addAll {S : MM} {p o : Nat} {r ro : Nat → Int} (hp : pth p) (ho : pth o) (hpo : o + 2 < p ∨ p + 2 < o) (h : PathIs S p r) (h2 : PathIs S o ro) (hroom : cnt r 300 + cnt (adds r ro) 300 ≤ 40) :
    ∃ S', fX3_addAll [vR p, vR o] S = some (none, S') ∧ PathIs S' p (mrg r ro) ∧ (∀ a, a ≠ p → a ≠ p + 1 → a ≠ p + 2 → S' a = S a) := by
  obtain ⟨S', h1, h3⟩ := l_addAll hp ho hpo h.2.2.2.2 h2 (by rw [cnt_mrg h.2.2.2.2 300 (Nat.le_refl _)]; exact hroom) (cnt ro 300) 0 0 S none (by omega) rfl (by omega) (h.congr (fun k _ => by rw [if_neg (by omega)])) (fun _ _ _ _ => rfl)
  refine ⟨S', ?_, h3⟩
  rw [← h1, uX3_addAll]
  simp (disch := omega) only [eX3_addAll_0, eX3_addAll_1, eX3_addAll_3, eX3_addAll_4, eX3_addAll_7, eX3_addAll_10, eX3_addAll_11, eX3_addAll_14, eX3_addAll_15, eX3_addAll_15x, eX3_addAll_15y, eX3_addAll_16, eX3_addAll_17, eX3_addAll_18, eX3_addAll_19, eX3_addAll_21, eX3_addAll_22, eX3_addAll_23, eX3_addAll_26, eX3_addAll_27, eX3_addAll_30, eX3_addAll_31, eX3_addAll_31x, eX3_addAll_31y, eX3_addAll_32, eX3_addAll_33, eX3_addAll_36, eX3_addAll_39, eX3_addAll_42, eX3_addAll_45, if_pos, if_neg, if_true, if_false, Option.bind_some, Option.toList_some, Option.toList_none, List.cons_append, List.nil_append]
  rfl
theorem s_pathClear {S : MM} {p : Nat} (hp : pth p) : fX3_clear [vR p] S = some (none, updM S p 2 0) := by
  obtain ⟨k0, -⟩ := id hp
  rw [uX3_clear]
  simp (disch := omega) only [eX3_clear_0, eX3_clear_1, eX3_clear_2, eX3_clear_5, if_pos, if_neg, if_true, if_false, Option.bind_some, Option.toList_some, Option.toList_none, List.cons_append, List.nil_append]
theorem s_copyRow {S : MM} {i j : Nat} {n : Int} (hi : kd i = 10) (hj : kd j = 10) (hn : rng n) : ∃ S', fX8_copyRow [vR i, vR j, vI n] S = some (none, S') ∧ (∀ a, a ≠ j → S' a = S a) ∧ (i ≠ j → ∀ y : Nat, S' j y = if (y : Int) < n ∧ y < alen i ∧ y < alen j then S i y else S j y) := by
  have ai := alen_le i
  have aj := alen_le j
  obtain ⟨hn1, hn2⟩ := hn
  have e1 := s_min (S := S) (a := (alen i : Int)) (b := (alen j : Int)) ⟨by omega, by omega⟩ ⟨by omega, by omega⟩
  have hb : 0 ≤ (if (alen j : Int) < alen i then (alen j : Int) else alen i) ∧ (if (alen j : Int) < alen i then (alen j : Int) else alen i) ≤ 28950 := by split <;> omega
  have hb2 : (if (alen j : Int) < alen i then (alen j : Int) else alen i) ≤ alen i ∧ (if (alen j : Int) < alen i then (alen j : Int) else alen i) ≤ alen j := by split <;> omega
  have hb3 : ∀ y : Nat, (y : Int) < (if (alen j : Int) < alen i then (alen j : Int) else alen i) ↔ y < alen i ∧ y < alen j := by intro y; split <;> omega
  generalize (if (alen j : Int) < alen i then (alen j : Int) else alen i) = q at e1 hb hb2 hb3
  have e2 := s_min (S := S) (a := n) (b := q) ⟨by omega, by omega⟩ ⟨by omega, by omega⟩
  have hm : ∀ y : Nat, (y : Int) < (if q < n then q else n) ↔ ((y : Int) < n ∧ y < alen i ∧ y < alen j) := by
    intro y
    have := hb3 y
    split <;> omega
  have hm2 : (if q < n then q else n) ≤ q := by split <;> omega
  have hm3 : -2147483648 ≤ (if q < n then q else n) := by split <;> omega
  generalize (if q < n then q else n) = w at e2 hm hm2 hm3
  by_cases c : 0 < w
  · refine ⟨cpyM S i 0 j 0 w.toNat, ?_, fun a ha => cpyM_ne ha, fun _ y => ?_⟩
    · rw [uX8_copyRow]
      simp (disch := omega) only [eX8_copyRow_0, eX8_copyRow_1, eX8_copyRow_2, eX8_copyRow_2x, eX8_copyRow_2y, eX8_copyRow_3, eX8_copyRow_4, eX8_copyRow_4x, eX8_copyRow_4y, eX8_copyRow_5, eX8_copyRow_8, eX8_copyRow_11, eX8_copyRow_12, eX8_copyRow_13, eX8_copyRow_16, eX8_copyRow_17, eX8_copyRow_18, eX8_copyRow_19, eX8_copyRow_20, eX8_copyRow_21, eX8_copyRow_24, if_pos, if_neg, if_true, if_false, Option.bind_some, Option.toList_some, Option.toList_none, List.cons_append, List.nil_append, e1, e2]
      have e3 : f_acopy [vR i, vI 0, vR j, vI 0, vI w] S = some (none, cpyM S i 0 j 0 w.toNat) := by
        simp only [f_acopy]
        rw [if_pos ⟨⟨hi, hj⟩, ⟨by omega, by omega, by omega⟩, by omega, by omega⟩]
        rfl
      rw [e3]
      simp (disch := omega) only [eX8_copyRow_0, eX8_copyRow_1, eX8_copyRow_2, eX8_copyRow_2x, eX8_copyRow_2y, eX8_copyRow_3, eX8_copyRow_4, eX8_copyRow_4x, eX8_copyRow_4y, eX8_copyRow_5, eX8_copyRow_8, eX8_copyRow_11, eX8_copyRow_12, eX8_copyRow_13, eX8_copyRow_16, eX8_copyRow_17, eX8_copyRow_18, eX8_copyRow_19, eX8_copyRow_20, eX8_copyRow_21, eX8_copyRow_24, if_pos, if_neg, if_true, if_false, Option.bind_some, Option.toList_some, Option.toList_none, List.cons_append, List.nil_append]
    · unfold cpyM
      have := hm y
      by_cases d : (y : Int) < w
      · rw [if_pos ⟨rfl, by omega, by omega⟩, if_pos (this.mp d), Nat.zero_add, Nat.sub_zero]
      · rw [if_neg (fun z => d (by omega)), if_neg (fun z => d (this.mpr z))]
  · refine ⟨S, ?_, fun _ _ => rfl, fun _ y => ?_⟩
    · rw [uX8_copyRow]
      simp (disch := omega) only [eX8_copyRow_0, eX8_copyRow_1, eX8_copyRow_2, eX8_copyRow_2x, eX8_copyRow_2y, eX8_copyRow_3, eX8_copyRow_4, eX8_copyRow_4x, eX8_copyRow_4y, eX8_copyRow_5, eX8_copyRow_8, eX8_copyRow_11, eX8_copyRow_12, eX8_copyRow_13, eX8_copyRow_16, eX8_copyRow_17, eX8_copyRow_18, eX8_copyRow_19, eX8_copyRow_20, eX8_copyRow_21, eX8_copyRow_24, if_pos, if_neg, if_true, if_false, Option.bind_some, Option.toList_some, Option.toList_none, List.cons_append, List.nil_append, e1, e2]
    · rw [if_neg (fun z => by have := (hm y).mpr z; omega)]
theorem s_pathCopy {S : MM} {p o : Nat} (hp : pth p) (ho : pth o) (hpo : o + 2 < p ∨ p + 2 < o) (hs : 0 ≤ S o 2 ∧ S o 2 ≤ 40) : ∃ S', fX3_copyFrom [vR p, vR o] S = some (none, S') ∧ S' p 2 = S o 2 ∧ (∀ r, PathIs S o r → PathIs S' p r) ∧ (∀ a, a ≠ p → a ≠ p + 1 → a ≠ p + 2 → S' a = S a) := by
  obtain ⟨k0, k1, k2, a1, a2⟩ := id hp
  obtain ⟨o0, o1, o2, b1, b2⟩ := id ho
  obtain ⟨T1, e1, e2, e3⟩ := s_copyRow (S := updM S p 2 (S o 2)) (i := o + 1) (j := p + 1) (n := S o 2) o1 k1 ⟨by omega, by omega⟩
  obtain ⟨T2, g1, g2, g3⟩ := s_copyRow (S := T1) (i := o + 2) (j := p + 2) (n := S o 2) o2 k2 ⟨by omega, by omega⟩
  have e3 := e3 (by omega)
  have g3 := g3 (by omega)
  have t2 : T2 p = up (S p) 2 (S o 2) := by rw [g2 p (by omega), e2 p (by omega), updM_eq]
  refine ⟨T2, ?_, by rw [t2, up_eq], fun r hr => ?_, fun a h1 h2 h3 => by rw [g2 a h3, e2 a h2, updM_ne h1]⟩
  · have n1 : updM S p 2 (S o 2) p 2 = S o 2 := by rw [updM_eq, up_eq]
    have n2 : T1 p 2 = S o 2 := by rw [e2 p (by omega), updM_eq, up_eq]
    rw [uX3_copyFrom]
    simp (disch := omega) only [eX3_copyFrom_0, eX3_copyFrom_1, eX3_copyFrom_2, eX3_copyFrom_5, eX3_copyFrom_8, eX3_copyFrom_9, eX3_copyFrom_12, eX3_copyFrom_13, eX3_copyFrom_16, eX3_copyFrom_17, eX3_copyFrom_20, eX3_copyFrom_23, eX3_copyFrom_24, eX3_copyFrom_27, eX3_copyFrom_28, eX3_copyFrom_31, eX3_copyFrom_32, eX3_copyFrom_35, eX3_copyFrom_38, if_pos, if_neg, if_true, if_false, Option.bind_some, Option.toList_some, Option.toList_none, List.cons_append, List.nil_append, n1]
    rw [e1]
    simp (disch := omega) only [eX3_copyFrom_0, eX3_copyFrom_1, eX3_copyFrom_2, eX3_copyFrom_5, eX3_copyFrom_8, eX3_copyFrom_9, eX3_copyFrom_12, eX3_copyFrom_13, eX3_copyFrom_16, eX3_copyFrom_17, eX3_copyFrom_20, eX3_copyFrom_23, eX3_copyFrom_24, eX3_copyFrom_27, eX3_copyFrom_28, eX3_copyFrom_31, eX3_copyFrom_32, eX3_copyFrom_35, eX3_copyFrom_38, if_pos, if_neg, if_true, if_false, Option.bind_some, Option.toList_some, Option.toList_none, List.cons_append, List.nil_append, n2]
    rw [g1]
    simp (disch := omega) only [eX3_copyFrom_0, eX3_copyFrom_1, eX3_copyFrom_2, eX3_copyFrom_5, eX3_copyFrom_8, eX3_copyFrom_9, eX3_copyFrom_12, eX3_copyFrom_13, eX3_copyFrom_16, eX3_copyFrom_17, eX3_copyFrom_20, eX3_copyFrom_23, eX3_copyFrom_24, eX3_copyFrom_27, eX3_copyFrom_28, eX3_copyFrom_31, eX3_copyFrom_32, eX3_copyFrom_35, eX3_copyFrom_38, if_pos, if_neg, if_true, if_false, Option.bind_some, Option.toList_some, Option.toList_none, List.cons_append, List.nil_append]
  · obtain ⟨h0, h40, hE, hV, hrr⟩ := hr
    refine ⟨by rw [t2, up_eq]; exact h0, h40, fun k q1 q2 => ?_, fun k q1 q2 => ?_, hrr⟩
    · have := cnt_lt q1 q2
      rw [g2 (p + 1) (by omega), e3, if_pos (by omega), updM_ne (by omega)]
      exact hE k q1 q2
    · have := cnt_lt q1 q2
      rw [g3, if_pos (by omega), e2 (o + 2) (by omega), updM_ne (by omega)]
      exact hV k q1 q2
/-! looks -/
theorem keyAt_lt {S : MM} {p : Nat} {r : Nat → Int} (h : PathIs S p r) {j g : Int} (hj : 0 ≤ j) (hg : 0 ≤ g) (hn : j < cnt r 300) : (if 0 ≤ j ∧ j < cnt r 300 then S (p + 1) j.toNat else 300) < g ↔ j < cnt r g.toNat := by
  rw [if_pos ⟨hj, hn⟩, h.2.2.1.ltI hg (by omega)]
  omega
theorem keyAt_b {S : MM} {p : Nat} {r : Nat → Int} (h : PathIs S p r) (j : Int) : 0 ≤ (if 0 ≤ j ∧ j < cnt r 300 then S (p + 1) j.toNat else 300) ∧ (if 0 ≤ j ∧ j < cnt r 300 then S (p + 1) j.toNat else 300) ≤ 300 := by
  split
  · have := h.2.2.1.rng (j := j.toNat) (by omega)
    omega
  · omega
theorem l_look0 {S : MM} {p : Nat} {r : Nat → Int} {pl goal : Int} (hp : pth p) (h : PathIs S p r) (hg : 0 ≤ goal ∧ goal ≤ 300) : ∀ (f : Nat) (i lo : Int), 0 ≤ i → (cnt r 300 : Int) ≤ i + f → i ≤ 1000 → rn xX3_looksOneByOne (7, [some (vR p), some (vI pl), some (vI goal), some (vI lo), some (vI i)], [], S) = some (some (vI (lo + lk0 f i (cnt r 300) (cnt r goal.toNat))), S) := by
  obtain ⟨k0, k1, k2, a1, a2⟩ := id hp
  have h0 := h.1
  have h40 := h.2.1
  intro f
  induction f with
  | zero =>
    intro i lo h1 h2 h3
    rw [eX3_looksOneByOne_7]
    simp (disch := omega) only [eX3_looksOneByOne_0, eX3_looksOneByOne_1, eX3_looksOneByOne_2, eX3_looksOneByOne_3, eX3_looksOneByOne_4, eX3_looksOneByOne_5, eX3_looksOneByOne_9, eX3_looksOneByOne_10, eX3_looksOneByOne_13, eX3_looksOneByOne_16, eX3_looksOneByOne_19, eX3_looksOneByOne_20, eX3_looksOneByOne_22, eX3_looksOneByOne_25, eX3_looksOneByOne_26, eX3_looksOneByOne_29, eX3_looksOneByOne_32, eX3_looksOneByOne_35, eX3_looksOneByOne_38, eX3_looksOneByOne_39, if_pos, if_neg, if_true, if_false, Option.bind_some, Option.toList_some, Option.toList_none, List.cons_append, List.nil_append]
    simp only [lk0, Int.add_zero]
  | succ f ih =>
    intro i lo h1 h2 h3
    rw [eX3_looksOneByOne_7]
    by_cases c : i < cnt r 300
    · have hk := s_keyAt hp h (j := i) ⟨by omega, by omega⟩
      have hl := keyAt_lt h h1 hg.1 c
      have hb := keyAt_b h i
      generalize (if 0 ≤ i ∧ i < cnt r 300 then S (p + 1) i.toNat else 300) = kk at hk hl hb
      simp (disch := omega) only [eX3_looksOneByOne_0, eX3_looksOneByOne_1, eX3_looksOneByOne_2, eX3_looksOneByOne_3, eX3_looksOneByOne_4, eX3_looksOneByOne_5, eX3_looksOneByOne_9, eX3_looksOneByOne_10, eX3_looksOneByOne_13, eX3_looksOneByOne_16, eX3_looksOneByOne_19, eX3_looksOneByOne_20, eX3_looksOneByOne_22, eX3_looksOneByOne_25, eX3_looksOneByOne_26, eX3_looksOneByOne_29, eX3_looksOneByOne_32, eX3_looksOneByOne_35, eX3_looksOneByOne_38, eX3_looksOneByOne_39, if_pos, if_neg, if_true, if_false, Option.bind_some, Option.toList_some, Option.toList_none, List.cons_append, List.nil_append, hk]
      simp only [lk0]
      rw [if_pos c]
      by_cases d : kk < goal
      · rw [if_pos d, if_pos (hl.mp d), ih (i + 1) (lo + 1) (by omega) (by omega) (by omega)]
        congr 4
        omega
      · rw [if_neg d, if_neg (fun q => d (hl.mpr q))]
    · simp (disch := omega) only [eX3_looksOneByOne_0, eX3_looksOneByOne_1, eX3_looksOneByOne_2, eX3_looksOneByOne_3, eX3_looksOneByOne_4, eX3_looksOneByOne_5, eX3_looksOneByOne_9, eX3_looksOneByOne_10, eX3_looksOneByOne_13, eX3_looksOneByOne_16, eX3_looksOneByOne_19, eX3_looksOneByOne_20, eX3_looksOneByOne_22, eX3_looksOneByOne_25, eX3_looksOneByOne_26, eX3_looksOneByOne_29, eX3_looksOneByOne_32, eX3_looksOneByOne_35, eX3_looksOneByOne_38, eX3_looksOneByOne_39, if_pos, if_neg, if_true, if_false, Option.bind_some, Option.toList_some, Option.toList_none, List.cons_append, List.nil_append]
      simp only [lk0]
      rw [if_neg c, Int.add_zero]
theorem s_looksOneByOne {S : MM} {p : Nat} {r : Nat → Int} {pl goal : Int} (hp : pth p) (h : PathIs S p r) (hg : 0 ≤ goal ∧ goal ≤ 300) (hpl : 0 ≤ pl ∧ pl ≤ 40) : fX3_looksOneByOne [vR p, vI pl, vI goal] S = some (some (vI (lk0 40 (pl + 1) (cnt r 300) (cnt r goal.toNat))), S) := by
  have h40 := h.2.1
  rw [uX3_looksOneByOne]
  simp (disch := omega) only [eX3_looksOneByOne_0, eX3_looksOneByOne_1, eX3_looksOneByOne_2, eX3_looksOneByOne_3, eX3_looksOneByOne_4, eX3_looksOneByOne_5, eX3_looksOneByOne_9, eX3_looksOneByOne_10, eX3_looksOneByOne_13, eX3_looksOneByOne_16, eX3_looksOneByOne_19, eX3_looksOneByOne_20, eX3_looksOneByOne_22, eX3_looksOneByOne_25, eX3_looksOneByOne_26, eX3_looksOneByOne_29, eX3_looksOneByOne_32, eX3_looksOneByOne_35, eX3_looksOneByOne_38, eX3_looksOneByOne_39, if_pos, if_neg, if_true, if_false, Option.bind_some, Option.toList_some, Option.toList_none, List.cons_append, List.nil_append]
  rw [l_look0 hp h hg 40 (pl + 1) 0 (by omega) (by omega) (by omega), Int.zero_add]
theorem l_halve {S : MM} {p : Nat} {r : Nat → Int} {p0 q0 goal : Int} (hp : pth p) (h : PathIs S p r) (hg : 0 ≤ goal ∧ goal ≤ 300) : ∀ (f : Nat) (a b i lo : Int) (x : Option VV), 0 ≤ a → a ≤ 40 → b ≤ cnt r 300 → 0 ≤ b → i + f = 40 → 0 ≤ i → rn xX3_looksHalving (12, [some (vR p), some (vI p0), some (vI q0), some (vI goal), some (vI lo), some (vI a), some (vI b), some (vI i), x], [], S) = some (some (vI (lo + lkH f a b (cnt r goal.toNat))), S) := by
  obtain ⟨k0, k1, k2, a1, a2⟩ := id hp
  have h0 := h.1
  have h40 := h.2.1
  intro f
  induction f with
  | zero =>
    intro a b i lo x h1 h2 h3 h4 h5 h6
    rw [eX3_looksHalving_12]
    simp (disch := omega) only [eX3_looksHalving_0, eX3_looksHalving_1, eX3_looksHalving_3, eX3_looksHalving_4, eX3_looksHalving_6, eX3_looksHalving_7, eX3_looksHalving_9, eX3_looksHalving_10, eX3_looksHalving_14, eX3_looksHalving_16, eX3_looksHalving_19, eX3_looksHalving_21, eX3_looksHalving_23, eX3_looksHalving_24, eX3_looksHalving_25, eX3_looksHalving_28, eX3_looksHalving_30, eX3_looksHalving_32, eX3_looksHalving_33, eX3_looksHalving_34, eX3_looksHalving_35, eX3_looksHalving_37, eX3_looksHalving_40, eX3_looksHalving_41, eX3_looksHalving_43, eX3_looksHalving_46, eX3_looksHalving_47, eX3_looksHalving_50, eX3_looksHalving_52, eX3_looksHalving_54, eX3_looksHalving_57, eX3_looksHalving_59, eX3_looksHalving_61, eX3_looksHalving_64, eX3_looksHalving_67, eX3_looksHalving_69, if_pos, if_neg, if_true, if_false, Option.bind_some, Option.toList_some, Option.toList_none, List.cons_append, List.nil_append]
    simp only [lkH, Int.add_zero]
  | succ f ih =>
    intro a b i lo x h1 h2 h3 h4 h5 h6
    rw [eX3_looksHalving_12]
    by_cases c : b - a > 1
    · have hk := s_keyAt hp h (j := (a + b) / 2) ⟨by omega, by omega⟩
      have hl := keyAt_lt h (j := (a + b) / 2) (by omega) hg.1 (by omega)
      have hb := keyAt_b h ((a + b) / 2)
      generalize (if 0 ≤ (a + b) / 2 ∧ (a + b) / 2 < cnt r 300 then S (p + 1) ((a + b) / 2).toNat else 300) = kk at hk hl hb
      simp (disch := omega) only [eX3_looksHalving_0, eX3_looksHalving_1, eX3_looksHalving_3, eX3_looksHalving_4, eX3_looksHalving_6, eX3_looksHalving_7, eX3_looksHalving_9, eX3_looksHalving_10, eX3_looksHalving_14, eX3_looksHalving_16, eX3_looksHalving_19, eX3_looksHalving_21, eX3_looksHalving_23, eX3_looksHalving_24, eX3_looksHalving_25, eX3_looksHalving_28, eX3_looksHalving_30, eX3_looksHalving_32, eX3_looksHalving_33, eX3_looksHalving_34, eX3_looksHalving_35, eX3_looksHalving_37, eX3_looksHalving_40, eX3_looksHalving_41, eX3_looksHalving_43, eX3_looksHalving_46, eX3_looksHalving_47, eX3_looksHalving_50, eX3_looksHalving_52, eX3_looksHalving_54, eX3_looksHalving_57, eX3_looksHalving_59, eX3_looksHalving_61, eX3_looksHalving_64, eX3_looksHalving_67, eX3_looksHalving_69, if_pos, if_neg, if_true, if_false, Option.bind_some, Option.toList_some, Option.toList_none, List.cons_append, List.nil_append, hk]
      simp only [lkH]
      rw [if_pos c]
      by_cases d : kk < goal
      · rw [if_pos d, if_pos (hl.mp d), ih ((a + b) / 2) b (i + 1) (lo + 1) _ (by omega) (by omega) (by omega) (by omega) (by omega) (by omega)]
        congr 4
        omega
      · rw [if_neg d, if_neg (fun q => d (hl.mpr q)), ih a ((a + b) / 2) (i + 1) (lo + 1) _ (by omega) (by omega) (by omega) (by omega) (by omega) (by omega)]
        congr 4
        omega
    · simp (disch := omega) only [eX3_looksHalving_0, eX3_looksHalving_1, eX3_looksHalving_3, eX3_looksHalving_4, eX3_looksHalving_6, eX3_looksHalving_7, eX3_looksHalving_9, eX3_looksHalving_10, eX3_looksHalving_14, eX3_looksHalving_16, eX3_looksHalving_19, eX3_looksHalving_21, eX3_looksHalving_23, eX3_looksHalving_24, eX3_looksHalving_25, eX3_looksHalving_28, eX3_looksHalving_30, eX3_looksHalving_32, eX3_looksHalving_33, eX3_looksHalving_34, eX3_looksHalving_35, eX3_looksHalving_37, eX3_looksHalving_40, eX3_looksHalving_41, eX3_looksHalving_43, eX3_looksHalving_46, eX3_looksHalving_47, eX3_looksHalving_50, eX3_looksHalving_52, eX3_looksHalving_54, eX3_looksHalving_57, eX3_looksHalving_59, eX3_looksHalving_61, eX3_looksHalving_64, eX3_looksHalving_67, eX3_looksHalving_69, if_pos, if_neg, if_true, if_false, Option.bind_some, Option.toList_some, Option.toList_none, List.cons_append, List.nil_append]
      simp only [lkH]
      rw [if_neg c, Int.add_zero]
theorem s_looksHalving {S : MM} {p : Nat} {r : Nat → Int} {a b goal : Int} (hp : pth p) (h : PathIs S p r) (hg : 0 ≤ goal ∧ goal ≤ 300) (ha : 0 ≤ a ∧ a ≤ 40) (hb : 0 ≤ b ∧ b ≤ cnt r 300) : fX3_looksHalving [vR p, vI a, vI b, vI goal] S = some (some (vI (lkH 40 a b (cnt r goal.toNat))), S) := by
  rw [uX3_looksHalving]
  simp (disch := omega) only [eX3_looksHalving_0, eX3_looksHalving_1, eX3_looksHalving_3, eX3_looksHalving_4, eX3_looksHalving_6, eX3_looksHalving_7, eX3_looksHalving_9, eX3_looksHalving_10, eX3_looksHalving_14, eX3_looksHalving_16, eX3_looksHalving_19, eX3_looksHalving_21, eX3_looksHalving_23, eX3_looksHalving_24, eX3_looksHalving_25, eX3_looksHalving_28, eX3_looksHalving_30, eX3_looksHalving_32, eX3_looksHalving_33, eX3_looksHalving_34, eX3_looksHalving_35, eX3_looksHalving_37, eX3_looksHalving_40, eX3_looksHalving_41, eX3_looksHalving_43, eX3_looksHalving_46, eX3_looksHalving_47, eX3_looksHalving_50, eX3_looksHalving_52, eX3_looksHalving_54, eX3_looksHalving_57, eX3_looksHalving_59, eX3_looksHalving_61, eX3_looksHalving_64, eX3_looksHalving_67, eX3_looksHalving_69, if_pos, if_neg, if_true, if_false, Option.bind_some, Option.toList_some, Option.toList_none, List.cons_append, List.nil_append]
  rw [l_halve hp h hg 40 a b 0 0 _ ha.1 ha.2 hb.2 hb.1 (by omega) (by omega), Int.zero_add]
theorem l_double {S : MM} {p : Nat} {r : Nat → Int} {pl goal : Int} (hp : pth p) (h : PathIs S p r) (hg : 0 ≤ goal ∧ goal ≤ 300) (hpl : 0 ≤ pl ∧ pl ≤ 40) : ∀ (f : Nat) (by_ sh lo : Int), 1 ≤ by_ → by_ ≤ 100 → 41 ≤ by_ + f → 1 ≤ f → 0 ≤ sh → sh ≤ 40 → rn xX3_looksDoubling (14, [some (vR p), some (vI pl), some (vI goal), some (vI lo), some (vI sh), some (vI (cnt r 300)), some (vI by_)], [], S) = some (some (vI (lo + lk1 f pl by_ sh (cnt r 300) (cnt r goal.toNat))), S) := by
  obtain ⟨k0, k1, k2, a1, a2⟩ := id hp
  have h0 := h.1
  have h40 := h.2.1
  intro f
  induction f with
  | zero => intro by_ sh lo h1 h2 h3 h4; omega
  | succ f ih =>
    intro by_ sh lo h1 h2 h3 h4 h5 h6
    rw [eX3_looksDoubling_14]
    by_cases c : pl + by_ < cnt r 300
    · have hk := s_keyAt hp h (j := pl + by_) ⟨by omega, by omega⟩
      have hl := keyAt_lt h (j := pl + by_) (by omega) hg.1 c
      have hb := keyAt_b h (pl + by_)
      generalize (if 0 ≤ pl + by_ ∧ pl + by_ < cnt r 300 then S (p + 1) (pl + by_).toNat else 300) = kk at hk hl hb
      simp (disch := omega) only [eX3_looksDoubling_0, eX3_looksDoubling_1, eX3_looksDoubling_2, eX3_looksDoubling_3, eX3_looksDoubling_5, eX3_looksDoubling_6, eX3_looksDoubling_9, eX3_looksDoubling_11, eX3_looksDoubling_12, eX3_looksDoubling_15, eX3_looksDoubling_17, eX3_looksDoubling_18, eX3_looksDoubling_19, eX3_looksDoubling_22, eX3_looksDoubling_25, eX3_looksDoubling_28, eX3_looksDoubling_29, eX3_looksDoubling_30, eX3_looksDoubling_32, eX3_looksDoubling_33, eX3_looksDoubling_36, eX3_looksDoubling_37, eX3_looksDoubling_40, eX3_looksDoubling_41, eX3_looksDoubling_43, eX3_looksDoubling_44, eX3_looksDoubling_46, eX3_looksDoubling_49, eX3_looksDoubling_50, eX3_looksDoubling_52, eX3_looksDoubling_53, eX3_looksDoubling_55, eX3_looksDoubling_57, eX3_looksDoubling_58, eX3_looksDoubling_59, eX3_looksDoubling_61, eX3_looksDoubling_64, eX3_looksDoubling_65, eX3_looksDoubling_66, eX3_looksDoubling_68, eX3_looksDoubling_70, eX3_looksDoubling_71, eX3_looksDoubling_74, eX3_looksDoubling_75, if_pos, if_neg, if_true, if_false, Option.bind_some, Option.toList_some, Option.toList_none, List.cons_append, List.nil_append, hk]
      simp only [lk1]
      rw [if_pos c]
      by_cases d : kk < goal
      · rw [if_pos d, if_pos (hl.mp d), ih (by_ * 2) (pl + by_) (lo + 1) (by omega) (by omega) (by omega) (by omega) (by omega) (by omega)]
        congr 4
        omega
      · rw [if_neg d, if_neg (fun q => d (hl.mpr q)), s_looksHalving hp h hg ⟨h5, h6⟩ ⟨by omega, by omega⟩]
        simp (disch := omega) only [eX3_looksDoubling_0, eX3_looksDoubling_1, eX3_looksDoubling_2, eX3_looksDoubling_3, eX3_looksDoubling_5, eX3_looksDoubling_6, eX3_looksDoubling_9, eX3_looksDoubling_11, eX3_looksDoubling_12, eX3_looksDoubling_15, eX3_looksDoubling_17, eX3_looksDoubling_18, eX3_looksDoubling_19, eX3_looksDoubling_22, eX3_looksDoubling_25, eX3_looksDoubling_28, eX3_looksDoubling_29, eX3_looksDoubling_30, eX3_looksDoubling_32, eX3_looksDoubling_33, eX3_looksDoubling_36, eX3_looksDoubling_37, eX3_looksDoubling_40, eX3_looksDoubling_41, eX3_looksDoubling_43, eX3_looksDoubling_44, eX3_looksDoubling_46, eX3_looksDoubling_49, eX3_looksDoubling_50, eX3_looksDoubling_52, eX3_looksDoubling_53, eX3_looksDoubling_55, eX3_looksDoubling_57, eX3_looksDoubling_58, eX3_looksDoubling_59, eX3_looksDoubling_61, eX3_looksDoubling_64, eX3_looksDoubling_65, eX3_looksDoubling_66, eX3_looksDoubling_68, eX3_looksDoubling_70, eX3_looksDoubling_71, eX3_looksDoubling_74, eX3_looksDoubling_75, if_pos, if_neg, if_true, if_false, Option.bind_some, Option.toList_some, Option.toList_none, List.cons_append, List.nil_append]
        congr 4
        omega
    · simp (disch := omega) only [eX3_looksDoubling_0, eX3_looksDoubling_1, eX3_looksDoubling_2, eX3_looksDoubling_3, eX3_looksDoubling_5, eX3_looksDoubling_6, eX3_looksDoubling_9, eX3_looksDoubling_11, eX3_looksDoubling_12, eX3_looksDoubling_15, eX3_looksDoubling_17, eX3_looksDoubling_18, eX3_looksDoubling_19, eX3_looksDoubling_22, eX3_looksDoubling_25, eX3_looksDoubling_28, eX3_looksDoubling_29, eX3_looksDoubling_30, eX3_looksDoubling_32, eX3_looksDoubling_33, eX3_looksDoubling_36, eX3_looksDoubling_37, eX3_looksDoubling_40, eX3_looksDoubling_41, eX3_looksDoubling_43, eX3_looksDoubling_44, eX3_looksDoubling_46, eX3_looksDoubling_49, eX3_looksDoubling_50, eX3_looksDoubling_52, eX3_looksDoubling_53, eX3_looksDoubling_55, eX3_looksDoubling_57, eX3_looksDoubling_58, eX3_looksDoubling_59, eX3_looksDoubling_61, eX3_looksDoubling_64, eX3_looksDoubling_65, eX3_looksDoubling_66, eX3_looksDoubling_68, eX3_looksDoubling_70, eX3_looksDoubling_71, eX3_looksDoubling_74, eX3_looksDoubling_75, if_pos, if_neg, if_true, if_false, Option.bind_some, Option.toList_some, Option.toList_none, List.cons_append, List.nil_append]
      rw [s_looksHalving hp h hg ⟨h5, h6⟩ ⟨by omega, by omega⟩]
      simp (disch := omega) only [eX3_looksDoubling_0, eX3_looksDoubling_1, eX3_looksDoubling_2, eX3_looksDoubling_3, eX3_looksDoubling_5, eX3_looksDoubling_6, eX3_looksDoubling_9, eX3_looksDoubling_11, eX3_looksDoubling_12, eX3_looksDoubling_15, eX3_looksDoubling_17, eX3_looksDoubling_18, eX3_looksDoubling_19, eX3_looksDoubling_22, eX3_looksDoubling_25, eX3_looksDoubling_28, eX3_looksDoubling_29, eX3_looksDoubling_30, eX3_looksDoubling_32, eX3_looksDoubling_33, eX3_looksDoubling_36, eX3_looksDoubling_37, eX3_looksDoubling_40, eX3_looksDoubling_41, eX3_looksDoubling_43, eX3_looksDoubling_44, eX3_looksDoubling_46, eX3_looksDoubling_49, eX3_looksDoubling_50, eX3_looksDoubling_52, eX3_looksDoubling_53, eX3_looksDoubling_55, eX3_looksDoubling_57, eX3_looksDoubling_58, eX3_looksDoubling_59, eX3_looksDoubling_61, eX3_looksDoubling_64, eX3_looksDoubling_65, eX3_looksDoubling_66, eX3_looksDoubling_68, eX3_looksDoubling_70, eX3_looksDoubling_71, eX3_looksDoubling_74, eX3_looksDoubling_75, if_pos, if_neg, if_true, if_false, Option.bind_some, Option.toList_some, Option.toList_none, List.cons_append, List.nil_append]
      simp only [lk1]
      rw [if_neg c]
theorem s_looksDoubling {S : MM} {p : Nat} {r : Nat → Int} {pl goal : Int} (hp : pth p) (h : PathIs S p r) (hg : 0 ≤ goal ∧ goal ≤ 300) (hpl : 0 ≤ pl ∧ pl ≤ 40) : fX3_looksDoubling [vR p, vI pl, vI goal] S = some (some (vI (lk1 40 pl 1 pl (cnt r 300) (cnt r goal.toNat))), S) := by
  obtain ⟨k0, -⟩ := id hp
  rw [uX3_looksDoubling]
  simp (disch := omega) only [eX3_looksDoubling_0, eX3_looksDoubling_1, eX3_looksDoubling_2, eX3_looksDoubling_3, eX3_looksDoubling_5, eX3_looksDoubling_6, eX3_looksDoubling_9, eX3_looksDoubling_11, eX3_looksDoubling_12, eX3_looksDoubling_15, eX3_looksDoubling_17, eX3_looksDoubling_18, eX3_looksDoubling_19, eX3_looksDoubling_22, eX3_looksDoubling_25, eX3_looksDoubling_28, eX3_looksDoubling_29, eX3_looksDoubling_30, eX3_looksDoubling_32, eX3_looksDoubling_33, eX3_looksDoubling_36, eX3_looksDoubling_37, eX3_looksDoubling_40, eX3_looksDoubling_41, eX3_looksDoubling_43, eX3_looksDoubling_44, eX3_looksDoubling_46, eX3_looksDoubling_49, eX3_looksDoubling_50, eX3_looksDoubling_52, eX3_looksDoubling_53, eX3_looksDoubling_55, eX3_looksDoubling_57, eX3_looksDoubling_58, eX3_looksDoubling_59, eX3_looksDoubling_61, eX3_looksDoubling_64, eX3_looksDoubling_65, eX3_looksDoubling_66, eX3_looksDoubling_68, eX3_looksDoubling_70, eX3_looksDoubling_71, eX3_looksDoubling_74, eX3_looksDoubling_75, if_pos, if_neg, if_true, if_false, Option.bind_some, Option.toList_some, Option.toList_none, List.cons_append, List.nil_append]
  rw [h.1, l_double hp h hg hpl 40 1 pl 0 (by omega) (by omega) (by omega) (by omega) hpl.1 hpl.2, Int.zero_add]
theorem s_looksFor {S : MM} {p : Nat} {r : Nat → Int} {s pl goal : Int} (hp : pth p) (h : PathIs S p r) (hg : 0 ≤ goal ∧ goal ≤ 300) (hpl : 0 ≤ pl ∧ pl ≤ 40) (hs : 0 ≤ s ∧ s ≤ 2) : fX3_looksFor [vR p, vI s, vI pl, vI goal] S = some (some (vI (lks s pl (cnt r 300) (cnt r goal.toNat))), S) := by
  have h0 := h.1
  obtain ⟨k0, -⟩ := id hp
  rw [uX3_looksFor]
  unfold lks
  by_cases c : s = 0
  · subst c
    simp (disch := omega) only [eX3_looksFor_0, eX3_looksFor_1, eX3_looksFor_28, eX3_looksFor_29, eX3_looksFor_30, eX3_looksFor_31, eX3_looksFor_34, eX3_looksFor_35, eX3_looksFor_36, eX3_looksFor_37, eX3_looksFor_38, eX3_looksFor_41, eX3_looksFor_42, eX3_looksFor_43, eX3_looksFor_44, eX3_looksFor_45, eX3_looksFor_48, eX3_looksFor_49, eX3_looksFor_52, if_pos, if_neg, if_true, if_false, Option.bind_some, Option.toList_some, Option.toList_none, List.cons_append, List.nil_append, s_looksOneByOne hp h hg hpl]
  · by_cases d : s = 1
    · subst d
      simp (disch := omega) only [eX3_looksFor_0, eX3_looksFor_1, eX3_looksFor_28, eX3_looksFor_29, eX3_looksFor_30, eX3_looksFor_31, eX3_looksFor_34, eX3_looksFor_35, eX3_looksFor_36, eX3_looksFor_37, eX3_looksFor_38, eX3_looksFor_41, eX3_looksFor_42, eX3_looksFor_43, eX3_looksFor_44, eX3_looksFor_45, eX3_looksFor_48, eX3_looksFor_49, eX3_looksFor_52, if_pos, if_neg, if_true, if_false, Option.bind_some, Option.toList_some, Option.toList_none, List.cons_append, List.nil_append, s_looksDoubling hp h hg hpl]
    · simp (disch := omega) only [eX3_looksFor_0, eX3_looksFor_1, eX3_looksFor_28, eX3_looksFor_29, eX3_looksFor_30, eX3_looksFor_31, eX3_looksFor_34, eX3_looksFor_35, eX3_looksFor_36, eX3_looksFor_37, eX3_looksFor_38, eX3_looksFor_41, eX3_looksFor_42, eX3_looksFor_43, eX3_looksFor_44, eX3_looksFor_45, eX3_looksFor_48, eX3_looksFor_49, eX3_looksFor_52, if_pos, if_neg, if_true, if_false, Option.bind_some, Option.toList_some, Option.toList_none, List.cons_append, List.nil_append]
      rw [h0, s_looksHalving hp h hg hpl ⟨by omega, by omega⟩]
      simp (disch := omega) only [eX3_looksFor_0, eX3_looksFor_1, eX3_looksFor_28, eX3_looksFor_29, eX3_looksFor_30, eX3_looksFor_31, eX3_looksFor_34, eX3_looksFor_35, eX3_looksFor_36, eX3_looksFor_37, eX3_looksFor_38, eX3_looksFor_41, eX3_looksFor_42, eX3_looksFor_43, eX3_looksFor_44, eX3_looksFor_45, eX3_looksFor_48, eX3_looksFor_49, eX3_looksFor_52, if_pos, if_neg, if_true, if_false, Option.bind_some, Option.toList_some, Option.toList_none, List.cons_append, List.nil_append]
