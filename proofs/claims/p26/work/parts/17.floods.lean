/-! rings, settings, floods -/
theorem s_ringKept {S : MM} {g : Nat} (hg : kd g = 4) : fX4_kept [vR g] S = some (some (vI (S g 2)), S) := by
  rw [uX4_kept]
  simp (disch := omega) only [eX4_kept_0, eX4_kept_1, eX4_kept_4, if_pos, if_neg, if_true, if_false, Option.bind_some, Option.toList_some, Option.toList_none, List.cons_append, List.nil_append]
theorem s_ringLatest {S : MM} {g : Nat} (hg : kd g = 4) (h0 : 0 ≤ S g 1 ∧ S g 1 ≤ 1000) : fX4_latest [vR g] S = some (some (vI (if 0 < S g 1 then S g 1 - 1 else S g 0 - 1)), S) := by
  rw [uX4_latest]
  simp (disch := omega) only [eX4_latest_0, eX4_latest_1, eX4_latest_4, eX4_latest_7, eX4_latest_8, eX4_latest_11, eX4_latest_12, eX4_latest_13, eX4_latest_16, eX4_latest_17, eX4_latest_20, eX4_latest_21, eX4_latest_22, if_pos, if_neg, if_true, if_false, Option.bind_some, Option.toList_some, Option.toList_none, List.cons_append, List.nil_append]
  split <;> rfl
theorem s_ringAdd {S : MM} {g : Nat} (hg : kd g = 4) (hP : 0 < S g 0 ∧ S g 0 ≤ 1000) (hn : 0 ≤ S g 1 ∧ S g 1 < S g 0) (hk : 0 ≤ S g 2 ∧ S g 2 ≤ S g 0) : ∃ S', fX4_add [vR g] S = some (some (vI (S g 1)), S') ∧ S' g 0 = S g 0 ∧ S' g 1 = (if S g 1 + 1 < S g 0 then S g 1 + 1 else 0) ∧ S' g 2 = (if S g 2 < S g 0 then S g 2 + 1 else S g 0) ∧ (∀ a, a ≠ g → S' a = S a) := by
  rw [uX4_add]
  by_cases c : S g 1 + 1 < S g 0
  · have e0 : updM S g 1 (S g 1 + 1) g 0 = S g 0 := by rw [updM_eq, up_ne (by omega)]
    have e2 : updM S g 1 (S g 1 + 1) g 2 = S g 2 := by rw [updM_eq, up_ne (by omega)]
    have hm := s_min (S := updM S g 1 (S g 1 + 1)) (a := S g 2 + 1) (b := S g 0) ⟨by omega, by omega⟩ ⟨by omega, by omega⟩
    refine ⟨updM (updM S g 1 (S g 1 + 1)) g 2 (if S g 0 < S g 2 + 1 then S g 0 else S g 2 + 1), ?_, by rw [updM_eq, up_ne (by omega)]; exact e0, by rw [updM_eq, up_ne (by omega), updM_eq, up_eq, if_pos c], ?_, fun a ha => by rw [updM_ne ha, updM_ne ha]⟩
    · simp (disch := omega) only [eX4_add_0, eX4_add_1, eX4_add_4, eX4_add_5, eX4_add_6, eX4_add_7, eX4_add_10, eX4_add_11, eX4_add_12, eX4_add_13, eX4_add_16, eX4_add_19, eX4_add_20, eX4_add_23, eX4_add_24, eX4_add_25, eX4_add_28, eX4_add_29, eX4_add_32, eX4_add_33, eX4_add_34, eX4_add_37, eX4_add_38, eX4_add_39, eX4_add_40, eX4_add_43, eX4_add_46, eX4_add_49, eX4_add_50, if_pos, if_neg, if_true, if_false, Option.bind_some, Option.toList_some, Option.toList_none, List.cons_append, List.nil_append, e0, e2]
      rw [hm]
      simp (disch := omega) only [eX4_add_0, eX4_add_1, eX4_add_4, eX4_add_5, eX4_add_6, eX4_add_7, eX4_add_10, eX4_add_11, eX4_add_12, eX4_add_13, eX4_add_16, eX4_add_19, eX4_add_20, eX4_add_23, eX4_add_24, eX4_add_25, eX4_add_28, eX4_add_29, eX4_add_32, eX4_add_33, eX4_add_34, eX4_add_37, eX4_add_38, eX4_add_39, eX4_add_40, eX4_add_43, eX4_add_46, eX4_add_49, eX4_add_50, if_pos, if_neg, if_true, if_false, Option.bind_some, Option.toList_some, Option.toList_none, List.cons_append, List.nil_append]
    · rw [updM_eq, up_eq]
      by_cases d : S g 2 < S g 0
      · rw [if_pos d, if_neg (by omega)]
      · rw [if_neg d, if_pos (by omega)]
  · have e0 : updM S g 1 0 g 0 = S g 0 := by rw [updM_eq, up_ne (by omega)]
    have e2 : updM S g 1 0 g 2 = S g 2 := by rw [updM_eq, up_ne (by omega)]
    have hm := s_min (S := updM S g 1 0) (a := S g 2 + 1) (b := S g 0) ⟨by omega, by omega⟩ ⟨by omega, by omega⟩
    refine ⟨updM (updM S g 1 0) g 2 (if S g 0 < S g 2 + 1 then S g 0 else S g 2 + 1), ?_, by rw [updM_eq, up_ne (by omega)]; exact e0, by rw [updM_eq, up_ne (by omega), updM_eq, up_eq, if_neg c], ?_, fun a ha => by rw [updM_ne ha, updM_ne ha]⟩
    · simp (disch := omega) only [eX4_add_0, eX4_add_1, eX4_add_4, eX4_add_5, eX4_add_6, eX4_add_7, eX4_add_10, eX4_add_11, eX4_add_12, eX4_add_13, eX4_add_16, eX4_add_19, eX4_add_20, eX4_add_23, eX4_add_24, eX4_add_25, eX4_add_28, eX4_add_29, eX4_add_32, eX4_add_33, eX4_add_34, eX4_add_37, eX4_add_38, eX4_add_39, eX4_add_40, eX4_add_43, eX4_add_46, eX4_add_49, eX4_add_50, if_pos, if_neg, if_true, if_false, Option.bind_some, Option.toList_some, Option.toList_none, List.cons_append, List.nil_append, e0, e2]
      rw [hm]
      simp (disch := omega) only [eX4_add_0, eX4_add_1, eX4_add_4, eX4_add_5, eX4_add_6, eX4_add_7, eX4_add_10, eX4_add_11, eX4_add_12, eX4_add_13, eX4_add_16, eX4_add_19, eX4_add_20, eX4_add_23, eX4_add_24, eX4_add_25, eX4_add_28, eX4_add_29, eX4_add_32, eX4_add_33, eX4_add_34, eX4_add_37, eX4_add_38, eX4_add_39, eX4_add_40, eX4_add_43, eX4_add_46, eX4_add_49, eX4_add_50, if_pos, if_neg, if_true, if_false, Option.bind_some, Option.toList_some, Option.toList_none, List.cons_append, List.nil_append]
    · rw [updM_eq, up_eq]
      by_cases d : S g 2 < S g 0
      · rw [if_pos d, if_neg (by omega)]
      · rw [if_neg d, if_pos (by omega)]
theorem s_ringDrop {S : MM} {g : Nat} (hg : kd g = 4) (hn : 0 ≤ S g 1 ∧ S g 1 ≤ 1000) (hk : 0 < S g 2 ∧ S g 2 ≤ 1000) : ∃ S', fX4_dropLatest [vR g] S = some (none, S') ∧ S' g 0 = S g 0 ∧ S' g 1 = (if 0 < S g 1 then S g 1 - 1 else S g 0 - 1) ∧ S' g 2 = S g 2 - 1 ∧ (∀ a, a ≠ g → S' a = S a) := by
  have e2 : updM S g 1 (if 0 < S g 1 then S g 1 - 1 else S g 0 - 1) g 2 = S g 2 := by rw [updM_eq, up_ne (by omega)]
  have hl := s_ringLatest hg (S := S) (by omega)
  generalize (if 0 < S g 1 then S g 1 - 1 else S g 0 - 1) = z at e2 hl
  refine ⟨updM (updM S g 1 z) g 2 (S g 2 - 1), ?_, by rw [updM_eq, up_ne (by omega), updM_eq, up_ne (by omega)], by rw [updM_eq, up_ne (by omega), updM_eq, up_eq], by rw [updM_eq, up_eq], fun a ha => by rw [updM_ne ha, updM_ne ha]⟩
  rw [uX4_dropLatest]
  simp (disch := omega) only [eX4_dropLatest_0, eX4_dropLatest_1, eX4_dropLatest_4, eX4_dropLatest_7, eX4_dropLatest_8, eX4_dropLatest_9, eX4_dropLatest_12, eX4_dropLatest_15, eX4_dropLatest_16, eX4_dropLatest_17, eX4_dropLatest_20, eX4_dropLatest_21, eX4_dropLatest_22, eX4_dropLatest_25, if_pos, if_neg, if_true, if_false, Option.bind_some, Option.toList_some, Option.toList_none, List.cons_append, List.nil_append, hl]
  rw [e2]
theorem s_ringCopy {S : MM} {g o : Nat} (hg : kd g = 4) (ho : kd o = 4) (hgo : g ≠ o) : ∃ S', fX4_copyFrom [vR g, vR o] S = some (none, S') ∧ S' g 0 = S g 0 ∧ S' g 1 = S o 1 ∧ S' g 2 = S o 2 ∧ (∀ a, a ≠ g → S' a = S a) := by
  have e : updM S g 1 (S o 1) o 2 = S o 2 := by rw [updM_ne (fun q => hgo q.symm)]
  refine ⟨updM (updM S g 1 (S o 1)) g 2 (S o 2), ?_, by rw [updM_eq, up_ne (by omega), updM_eq, up_ne (by omega)], by rw [updM_eq, up_ne (by omega), updM_eq, up_eq], by rw [updM_eq, up_eq], fun a ha => by rw [updM_ne ha, updM_ne ha]⟩
  rw [uX4_copyFrom]
  simp (disch := omega) only [eX4_copyFrom_0, eX4_copyFrom_1, eX4_copyFrom_2, eX4_copyFrom_5, eX4_copyFrom_8, eX4_copyFrom_9, eX4_copyFrom_10, eX4_copyFrom_13, eX4_copyFrom_16, if_pos, if_neg, if_true, if_false, Option.bind_some, Option.toList_some, Option.toList_none, List.cons_append, List.nil_append]
  rw [e]
def stg (t : Nat) : Prop := kd t = 7 ∧ kd (t + 1) = 10 ∧ alen (t + 1) = 4
theorem s_valueOf {S : MM} {t : Nat} {j : Int} (ht : stg t) (hj : 0 ≤ j ∧ j ≤ 3) : fX7_valueOf [vR t, vI j] S = some (some (vI (S (t + 1) j.toNat)), S) := by
  obtain ⟨k0, k1, a1⟩ := ht
  have e := s_isBetween (S := S) (a := j) (b := 0) (c := 3) ⟨by omega, by omega⟩ ⟨by omega, by omega⟩ ⟨by omega, by omega⟩
  rw [if_pos (by omega)] at e
  rw [uX7_valueOf]
  simp (disch := omega) only [eX7_valueOf_0, eX7_valueOf_1, eX7_valueOf_2, eX7_valueOf_3, eX7_valueOf_6, eX7_valueOf_9, eX7_valueOf_10, eX7_valueOf_13, eX7_valueOf_14, eX7_valueOf_14x, eX7_valueOf_14y, eX7_valueOf_15, eX7_valueOf_18, eX7_valueOf_19, if_pos, if_neg, if_true, if_false, Option.bind_some, Option.toList_some, Option.toList_none, List.cons_append, List.nil_append, e]
theorem s_change {S : MM} {t : Nat} {j z : Int} (ht : stg t) (hj : 0 ≤ j ∧ j ≤ 3) : fX7_change [vR t, vI j, vI z] S = some (none, updM S (t + 1) j.toNat z) := by
  obtain ⟨k0, k1, a1⟩ := ht
  have e := s_isBetween (S := S) (a := j) (b := 0) (c := 3) ⟨by omega, by omega⟩ ⟨by omega, by omega⟩ ⟨by omega, by omega⟩
  rw [if_pos (by omega)] at e
  rw [uX7_change]
  simp (disch := omega) only [eX7_change_0, eX7_change_1, eX7_change_2, eX7_change_3, eX7_change_6, eX7_change_9, eX7_change_10, eX7_change_13, eX7_change_14, eX7_change_15, eX7_change_16, if_pos, if_neg, if_true, if_false, Option.bind_some, Option.toList_some, Option.toList_none, List.cons_append, List.nil_append, e]
theorem s_setCopy {S : MM} {t o : Nat} (ht : stg t) (ho : stg o) (hto : t ≠ o) : ∃ S', fX7_copyFrom [vR t, vR o] S = some (none, S') ∧ (∀ j : Nat, j < 4 → S' (t + 1) j = S (o + 1) j) ∧ (∀ a, a ≠ t + 1 → S' a = S a) := by
  obtain ⟨k0, k1, a1⟩ := ht
  obtain ⟨q0, q1, b1⟩ := ho
  obtain ⟨S', e1, e2, e3⟩ := s_copyRow (S := S) (i := o + 1) (j := t + 1) (n := (alen (t + 1) : Int)) q1 k1 ⟨by omega, by omega⟩
  refine ⟨S', ?_, fun j hj => ?_, e2⟩
  · rw [uX7_copyFrom]
    simp (disch := omega) only [eX7_copyFrom_0, eX7_copyFrom_1, eX7_copyFrom_4, eX7_copyFrom_5, eX7_copyFrom_8, eX7_copyFrom_9, eX7_copyFrom_12, eX7_copyFrom_12x, eX7_copyFrom_12y, eX7_copyFrom_13, eX7_copyFrom_16, if_pos, if_neg, if_true, if_false, Option.bind_some, Option.toList_some, Option.toList_none, List.cons_append, List.nil_append, e1]
  · rw [e3 (by omega), if_pos (by omega)]
def fld (d : Nat) : Prop := kd d = 1 ∧ kd (d + 1) = 13 ∧ alen (d + 1) = 4 ∧ kd (d + 2) = 4 ∧ ∀ k : Nat, k < 4 → riv (d + 3 + 10 * k)
/-- floods: m are kept, the oldest first -/
def FloodsIs (S : MM) (d : Nat) (m : Nat) (T : Nat → Nat → Nat → Int) : Prop := S (d + 2) 0 = 4 ∧ (0 ≤ S (d + 2) 1 ∧ S (d + 2) 1 < 4) ∧ S (d + 2) 2 = (m : Int) ∧ m ≤ 4 ∧ (∀ k : Nat, k < 4 → sz40 S (d + 3 + 10 * k)) ∧ ∀ j : Nat, j < m → RiverIs S (d + 3 + 10 * (((S (d + 2) 1).toNat + 4 - m + j) % 4)) (T j)
theorem sz40.rows {S S' : MM} {v : Nat} (h : sz40 S v) (he : ∀ a, v < a → a < v + 10 → S' a = S a) : sz40 S' v := by
  unfold sz40
  rw [he _ (by omega) (by omega), he _ (by omega) (by omega), he _ (by omega) (by omega)]
  exact h
theorem FloodsIs.rows {S S' : MM} {d m : Nat} {T : Nat → Nat → Nat → Int} (h : FloodsIs S d m T) (he : ∀ a, d + 2 ≤ a → a < d + 43 → S' a = S a) : FloodsIs S' d m T := by
  obtain ⟨h1, h2, h3, h4, h5, h6⟩ := h
  have e := he (d + 2) (by omega) (by omega)
  refine ⟨by rw [e]; exact h1, by rw [e]; exact h2, by rw [e]; exact h3, h4, fun k hk => (h5 k hk).rows (fun a q1 q2 => he a (by omega) (by omega)), fun j hj => ?_⟩
  rw [e]
  exact (h6 j hj).rows (fun a q1 q2 => he a (by omega) (by omega))
theorem FloodsIs.congr {S : MM} {d m : Nat} {T T' : Nat → Nat → Nat → Int} (h : FloodsIs S d m T) (he : ∀ j w k, j < m → w < 3 → k < 300 → T' j w k = T j w k) : FloodsIs S d m T' := by
  obtain ⟨h1, h2, h3, h4, h5, h6⟩ := h
  exact ⟨h1, h2, h3, h4, h5, fun j hj => (h6 j hj).congr (fun w k hw hk => he j w k hj hw hk)⟩
theorem s_floodsKept {S : MM} {d : Nat} (hd : fld d) : fX1_kept [vR d] S = some (some (vI (S (d + 2) 2)), S) := by
  obtain ⟨k0, k1, a1, k2, hr⟩ := hd
  rw [uX1_kept]
  simp (disch := omega) only [eX1_kept_0, eX1_kept_1, eX1_kept_4, eX1_kept_7, if_pos, if_neg, if_true, if_false, Option.bind_some, Option.toList_some, Option.toList_none, List.cons_append, List.nil_append, s_ringKept k2]
theorem s_floodsAt {S : MM} {d : Nat} {j : Int} (hd : fld d) (hj : 0 ≤ j ∧ j ≤ 3) : fX1_at [vR d, vI j] S = some (some (vR (d + 3 + 10 * j.toNat)), S) := by
  obtain ⟨k0, k1, a1, k2, hr⟩ := hd
  have e := s_isBetween (S := S) (a := j) (b := 0) (c := 3) ⟨by omega, by omega⟩ ⟨by omega, by omega⟩ ⟨by omega, by omega⟩
  rw [if_pos (by omega)] at e
  have e1 : ((alen (d + 1) : Int) - 1) = 3 := by omega
  have ef : fref (d + 1) j.toNat = d + 3 + 10 * j.toNat := (fref13 k1).trans (by omega)
  rw [uX1_at]
  simp (disch := omega) only [eX1_at_0, eX1_at_1, eX1_at_2, eX1_at_3, eX1_at_6, eX1_at_6x, eX1_at_6y, eX1_at_7, eX1_at_8, eX1_at_9, eX1_at_12, eX1_at_15, eX1_at_16, eX1_at_19, eX1_at_20, eX1_at_21, eX1_at_24, eX1_at_25, if_pos, if_neg, if_true, if_false, Option.bind_some, Option.toList_some, Option.toList_none, List.cons_append, List.nil_append, e1, e]
  rw [ef]
theorem s_addEmpty {S : MM} {d m : Nat} {T : Nat → Nat → Nat → Int} (hd : fld d) (h : FloodsIs S d m T) : ∃ (S' : MM) (q : Nat), fX1_addEmpty [vR d] S = some (some (vR (d + 3 + 10 * q)), S') ∧ q < 4 ∧ FloodsIs S' d (if m < 4 then m + 1 else 4) (fun j => if m < 4 then (if j < m then T j else fun _ _ => 0) else (if j < 3 then T (j + 1) else fun _ _ => 0)) ∧ (S' (d + 3 + 10 * q + 1) 2 = 0 ∧ S' (d + 3 + 10 * q + 4) 2 = 0 ∧ S' (d + 3 + 10 * q + 7) 2 = 0) ∧ q = ((S' (d + 2) 1).toNat + 4 - (if m < 4 then m + 1 else 4) + ((if m < 4 then m + 1 else 4) - 1)) % 4 ∧ (∀ a, a < d + 2 ∨ d + 43 ≤ a → S' a = S a) := by
  obtain ⟨k0, k1, a1, k2, hr⟩ := id hd
  obtain ⟨h1, h2, h3, h4, h5, h6⟩ := h
  obtain ⟨T1, e1, e2, e3, e4, e5⟩ := s_ringAdd (S := S) k2 (by omega) (by omega) (by omega)
  rw [h1] at e2 e3 e4
  obtain ⟨q, hq⟩ : ∃ q : Nat, S (d + 2) 1 = (q : Int) := ⟨(S (d + 2) 1).toNat, by omega⟩
  have hq4 : q < 4 := by omega
  have hv := hr q hq4
  obtain ⟨r0, -⟩ := id hv
  obtain ⟨T2, f1, f2, f3, f4, f5⟩ := s_riverClear (S := T1) hv
  have hT2 : T2 (d + 2) = T1 (d + 2) := f5 _ (by omega) (by omega) (by omega)
  have hother : ∀ k : Nat, k < 4 → k ≠ q → ∀ a, d + 3 + 10 * k < a → a < d + 3 + 10 * k + 10 → T2 a = S a := fun k hk hne a y1 y2 => by rw [f5 a (by omega) (by omega) (by omega), e5 a (by omega)]
  have hzero : RiverIs T2 (d + 3 + 10 * q) (fun _ _ => 0) := ⟨PathIs.zero f2, PathIs.zero f3, PathIs.zero f4⟩
  refine ⟨T2, q, ?_, hq4, ⟨by rw [hT2]; exact e2, ?_, ?_, ?_, fun k hk => ?_, fun j hj => ?_⟩, ⟨f2, f3, f4⟩, ?_, fun a ha => by rw [f5 a (by omega) (by omega) (by omega), e5 a (by omega)]⟩
  · have e6 := s_floodsAt (S := T1) (j := (q : Int)) hd (by omega)
    rw [hq] at e1
    rw [Int.toNat_natCast] at e6
    rw [uX1_addEmpty]
    simp (disch := omega) only [eX1_addEmpty_0, eX1_addEmpty_1, eX1_addEmpty_2, eX1_addEmpty_5, eX1_addEmpty_8, eX1_addEmpty_11, eX1_addEmpty_12, eX1_addEmpty_13n, eX1_addEmpty_13r, eX1_addEmpty_16, eX1_addEmpty_17, eX1_addEmpty_20, eX1_addEmpty_21, if_pos, if_neg, if_true, if_false, Option.bind_some, Option.toList_some, Option.toList_none, List.cons_append, List.nil_append, e1, e6, f1]
  · rw [hT2, e3]
    split <;> omega
  · rw [hT2, e4, h3]
    by_cases c : m < 4
    · rw [if_pos (by omega), if_pos c]
      omega
    · rw [if_neg (by omega), if_neg c]
      rfl
  · split <;> omega
  · by_cases c : k = q
    · subst c
      exact hzero.sz
    · exact (h5 k hk).rows (hother k hk c)
  · have hn : (T2 (d + 2) 1).toNat = (q + 1) % 4 := by
      rw [hT2, e3, hq]
      split <;> omega
    rw [hn]
    by_cases c : m < 4
    · rw [if_pos c] at hj ⊢
      have hp : ((q + 1) % 4 + 4 - (m + 1) + j) % 4 = (q + 4 - m + j) % 4 := by omega
      rw [hp]
      by_cases c2 : j < m
      · simp only [if_pos c, if_pos c2]
        have h7 := h6 j c2
        rw [hq, Int.toNat_natCast] at h7
        exact h7.rows (hother _ (by omega) (by omega))
      · simp only [if_pos c, if_neg c2]
        have : (q + 4 - m + j) % 4 = q := by omega
        rw [this]
        exact hzero
    · rw [if_neg c] at hj ⊢
      by_cases c2 : j < 3
      · simp only [if_neg c, if_pos c2]
        have h7 := h6 (j + 1) (by omega)
        rw [hq, Int.toNat_natCast] at h7
        have hp : ((q + 1) % 4 + 4 - 4 + j) % 4 = (q + 4 - m + (j + 1)) % 4 := by omega
        rw [hp]
        exact h7.rows (hother _ (by omega) (by omega))
      · simp only [if_neg c, if_neg c2]
        have : ((q + 1) % 4 + 4 - 4 + j) % 4 = q := by omega
        rw [this]
        exact hzero
  · have hn : (T2 (d + 2) 1).toNat = (q + 1) % 4 := by
      rw [hT2, e3, hq]
      split <;> omega
    rw [hn]
    split <;> omega
theorem s_floodsLatest {S : MM} {d m : Nat} {T : Nat → Nat → Nat → Int} (hd : fld d) (h : FloodsIs S d m T) : fX1_latest [vR d] S = some (some (if m = 0 then vN else vR (d + 3 + 10 * (((S (d + 2) 1).toNat + 4 - m + (m - 1)) % 4))), S) := by
  obtain ⟨k0, k1, a1, k2, hr⟩ := id hd
  obtain ⟨h1, h2, h3, h4, h5, h6⟩ := h
  rw [uX1_latest]
  by_cases c : m = 0
  · rw [if_pos c]
    simp (disch := omega) only [eX1_latest_0, eX1_latest_1, eX1_latest_4, eX1_latest_7, eX1_latest_10, eX1_latest_11, eX1_latest_12, eX1_latest_15, eX1_latest_18, eX1_latest_21, eX1_latest_24, eX1_latest_25, if_pos, if_neg, if_true, if_false, Option.bind_some, Option.toList_some, Option.toList_none, List.cons_append, List.nil_append, s_ringKept k2]
  · rw [if_neg c]
    have hl := s_ringLatest k2 (S := S) (by omega)
    have ha := s_floodsAt (S := S) (j := (if 0 < S (d + 2) 1 then S (d + 2) 1 - 1 else S (d + 2) 0 - 1)) hd (by split <;> omega)
    have hz : (if 0 < S (d + 2) 1 then S (d + 2) 1 - 1 else S (d + 2) 0 - 1).toNat = ((S (d + 2) 1).toNat + 4 - m + (m - 1)) % 4 := by split <;> omega
    rw [hz] at ha
    simp (disch := omega) only [eX1_latest_0, eX1_latest_1, eX1_latest_4, eX1_latest_7, eX1_latest_10, eX1_latest_11, eX1_latest_12, eX1_latest_15, eX1_latest_18, eX1_latest_21, eX1_latest_24, eX1_latest_25, if_pos, if_neg, if_true, if_false, Option.bind_some, Option.toList_some, Option.toList_none, List.cons_append, List.nil_append, s_ringKept k2, hl, ha]
theorem s_floodsDrop {S : MM} {d m : Nat} {T : Nat → Nat → Nat → Int} (hd : fld d) (h : FloodsIs S d m T) (hm : 0 < m) : ∃ S', fX1_dropLatest [vR d] S = some (none, S') ∧ FloodsIs S' d (m - 1) T ∧ (∀ a, a ≠ d + 2 → S' a = S a) := by
  obtain ⟨k0, k1, a1, k2, hr⟩ := id hd
  obtain ⟨h1, h2, h3, h4, h5, h6⟩ := h
  obtain ⟨S', e1, e2, e3, e4, e5⟩ := s_ringDrop (S := S) k2 (by omega) (by omega)
  refine ⟨S', ?_, ⟨by rw [e2]; exact h1, by rw [e3]; split <;> omega, by rw [e4]; omega, by omega, fun k hk => (h5 k hk).rows (fun a q1 q2 => e5 a (by omega)), fun j hj => ?_⟩, e5⟩
  · rw [uX1_dropLatest]
    simp (disch := omega) only [eX1_dropLatest_0, eX1_dropLatest_1, eX1_dropLatest_4, eX1_dropLatest_7, if_pos, if_neg, if_true, if_false, Option.bind_some, Option.toList_some, Option.toList_none, List.cons_append, List.nil_append, e1]
  · have hn : (S' (d + 2) 1).toNat = ((S (d + 2) 1).toNat + 3) % 4 := by
      rw [e3]
      split <;> omega
    rw [hn]
    have hp : (((S (d + 2) 1).toNat + 3) % 4 + 4 - (m - 1) + j) % 4 = ((S (d + 2) 1).toNat + 4 - m + j) % 4 := by omega
    rw [hp]
    exact (h6 j (by omega)).rows (fun a q1 q2 => e5 a (by omega))
theorem l_floodsCopy {S : MM} {d o : Nat} (hd : fld d) (ho : fld o) (hdo : d + 42 < o ∨ o + 42 < d) (hs : ∀ k : Nat, k < 4 → sz40 S (o + 3 + 10 * k)) : ∀ (f i : Nat) (T : MM) (x : Option VV), i + f = 4 → (∀ a, a < d + 3 ∨ d + 43 ≤ a → T a = S a) → (∀ k : Nat, k < i → sz40 T (d + 3 + 10 * k) ∧ ∀ R, RiverIs S (o + 3 + 10 * k) R → RiverIs T (d + 3 + 10 * k) R) →
    ∃ S', rn xX1_copyFrom (13, [some (vR d), some (vR o), some (vI i), x], [], T) = some (none, S') ∧ (∀ a, a < d + 3 ∨ d + 43 ≤ a → S' a = S a) ∧ (∀ k : Nat, k < 4 → sz40 S' (d + 3 + 10 * k) ∧ ∀ R, RiverIs S (o + 3 + 10 * k) R → RiverIs S' (d + 3 + 10 * k) R) := by
  obtain ⟨k0, k1, a1, k2, hr⟩ := id hd
  obtain ⟨j0, j1, b1, j2, hr2⟩ := id ho
  intro f
  induction f with
  | zero =>
    intro i T x e1 e2 e3
    have e : i = 4 := by omega
    subst e
    refine ⟨T, ?_, e2, e3⟩
    rw [eX1_copyFrom_13]
    simp (disch := omega) only [eX1_copyFrom_0, eX1_copyFrom_1, eX1_copyFrom_4, eX1_copyFrom_5, eX1_copyFrom_8, eX1_copyFrom_11, eX1_copyFrom_12, eX1_copyFrom_14, eX1_copyFrom_15, eX1_copyFrom_18, eX1_copyFrom_19, eX1_copyFrom_20, eX1_copyFrom_23, eX1_copyFrom_24, eX1_copyFrom_25n, eX1_copyFrom_25r, eX1_copyFrom_28, eX1_copyFrom_29, eX1_copyFrom_30, eX1_copyFrom_31, eX1_copyFrom_34, eX1_copyFrom_37, eX1_copyFrom_40, eX1_copyFrom_43, if_pos, if_neg, if_true, if_false, Option.bind_some, Option.toList_some, Option.toList_none, List.cons_append, List.nil_append]
  | succ f ih =>
    intro i T x e1 e2 e3
    obtain ⟨T1, f1, f2, f3, f4⟩ := s_riverCopy (S := T) (hr i (by omega)) (hr2 i (by omega)) (by omega) ((hs i (by omega)).rows (fun a q1 q2 => e2 a (by omega)))
    obtain ⟨S', g1, g2⟩ := ih (i + 1) T1 (some (vR (d + 3 + 10 * i))) (by omega) (fun a ha => by rw [f4 a (by omega)]; exact e2 a ha) (fun k hk => by
      by_cases c : k = i
      · subst c
        exact ⟨f2, fun R hR => f3 R (hR.rows (fun a q1 q2 => e2 a (by omega)))⟩
      · obtain ⟨y1, y2⟩ := e3 k (by omega)
        exact ⟨y1.rows (fun a q1 q2 => f4 a (by omega)), fun R hR => (y2 R hR).rows (fun a q1 q2 => f4 a (by omega))⟩)
    refine ⟨S', ?_, g2⟩
    have h1 := s_floodsAt (S := T) (j := (i : Int)) hd (by omega)
    have h2 := s_floodsAt (S := T) (j := (i : Int)) ho (by omega)
    rw [Int.toNat_natCast] at h1 h2
    rw [← g1, eX1_copyFrom_13]
    obtain ⟨r0, -⟩ := hr i (by omega)
    simp (disch := omega) only [eX1_copyFrom_0, eX1_copyFrom_1, eX1_copyFrom_4, eX1_copyFrom_5, eX1_copyFrom_8, eX1_copyFrom_11, eX1_copyFrom_12, eX1_copyFrom_14, eX1_copyFrom_15, eX1_copyFrom_18, eX1_copyFrom_19, eX1_copyFrom_20, eX1_copyFrom_23, eX1_copyFrom_24, eX1_copyFrom_25n, eX1_copyFrom_25r, eX1_copyFrom_28, eX1_copyFrom_29, eX1_copyFrom_30, eX1_copyFrom_31, eX1_copyFrom_34, eX1_copyFrom_37, eX1_copyFrom_40, eX1_copyFrom_43, if_pos, if_neg, if_true, if_false, Option.bind_some, Option.toList_some, Option.toList_none, List.cons_append, List.nil_append, h1, h2, f1]
    rw [show ((i : Int) + 1) = ((i + 1 : Nat) : Int) by omega]
theorem s_floodsCopy {S : MM} {d o : Nat} (hd : fld d) (ho : fld o) (hdo : d + 42 < o ∨ o + 42 < d) (hs : ∀ k : Nat, k < 4 → sz40 S (o + 3 + 10 * k)) (hp : S (d + 2) 0 = 4) : ∃ S', fX1_copyFrom [vR d, vR o] S = some (none, S') ∧ (∀ m T, FloodsIs S o m T → FloodsIs S' d m T) ∧ (∀ a, a < d + 2 ∨ d + 43 ≤ a → S' a = S a) := by
  obtain ⟨k0, k1, a1, k2, hr⟩ := id hd
  obtain ⟨j0, j1, b1, j2, hr2⟩ := id ho
  obtain ⟨T1, e1, e2, e3, e4, e5⟩ := s_ringCopy (S := S) k2 j2 (by omega)
  obtain ⟨S', g1, g2, g3⟩ := l_floodsCopy (S := T1) hd ho hdo (fun k hk => (hs k hk).rows (fun a q1 q2 => e5 a (by omega))) 4 0 T1 none rfl (fun _ _ => rfl) (fun k hk => by omega)
  have hd2 := g2 (d + 2) (by omega)
  refine ⟨S', ?_, fun m T h => ?_, fun a ha => by rw [g2 a (by omega), e5 a (by omega)]⟩
  · rw [← g1, uX1_copyFrom]
    simp (disch := omega) only [eX1_copyFrom_0, eX1_copyFrom_1, eX1_copyFrom_4, eX1_copyFrom_5, eX1_copyFrom_8, eX1_copyFrom_11, eX1_copyFrom_12, eX1_copyFrom_14, eX1_copyFrom_15, eX1_copyFrom_18, eX1_copyFrom_19, eX1_copyFrom_20, eX1_copyFrom_23, eX1_copyFrom_24, eX1_copyFrom_25n, eX1_copyFrom_25r, eX1_copyFrom_28, eX1_copyFrom_29, eX1_copyFrom_30, eX1_copyFrom_31, eX1_copyFrom_34, eX1_copyFrom_37, eX1_copyFrom_40, eX1_copyFrom_43, if_pos, if_neg, if_true, if_false, Option.bind_some, Option.toList_some, Option.toList_none, List.cons_append, List.nil_append, e1]
    rfl
  · obtain ⟨h1, h2, h3, h4, h5, h6⟩ := h
    refine ⟨by rw [hd2, e2]; exact hp, by rw [hd2, e3]; exact h2, by rw [hd2, e4]; exact h3, h4, fun k hk => (g3 k hk).1, fun j hj => ?_⟩
    rw [hd2, e3]
    exact (g3 _ (by omega)).2 _ ((h6 j hj).rows (fun a q1 q2 => e5 a (by omega)))
