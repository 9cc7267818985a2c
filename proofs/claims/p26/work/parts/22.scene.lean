/-! a scene: settings, river, floods, run -/
def scnF (s : Nat) : Prop := kd s = 6 ∧ stg (s + 1) ∧ riv (s + 3) ∧ fld (s + 13) ∧ crs (s + 56)
def scB (i : Nat) : Nat := if i = 0 then 1 else 17 + 64 * i
set_option maxRecDepth 100000 in
theorem scn_r : ∀ i : Nat, i < 9 → ∀ u : Nat, u < 5 → kd (if u = 0 then scB i + 3 else scB i + 6 + 10 * u) = 5 := by
  unfold scB
  decide +kernel
set_option maxRecDepth 100000 in
theorem scn_p : ∀ i : Nat, i < 9 → ∀ u : Nat, u < 5 → ∀ w : Nat, w < 3 → pth ((if u = 0 then scB i + 3 else scB i + 6 + 10 * u) + 1 + 3 * w) := by
  unfold scB pth
  decide +kernel
set_option maxRecDepth 100000 in
theorem scn_c : ∀ i : Nat, i < 9 → crs (scB i + 56) := by
  unfold scB crs
  decide +kernel
set_option maxRecDepth 100000 in
theorem scn_t : ∀ i : Nat, i < 9 → kd (scB i) = 6 ∧ stg (scB i + 1) ∧ kd (scB i + 13) = 1 ∧ kd (scB i + 13 + 1) = 13 ∧ alen (scB i + 13 + 1) = 4 ∧ kd (scB i + 13 + 2) = 4 := by
  unfold scB stg
  decide +kernel
theorem scn_v {i u : Nat} (hi : i < 9) (hu : u < 5) : riv (if u = 0 then scB i + 3 else scB i + 6 + 10 * u) :=
  ⟨scn_r i hi u hu, scn_p i hi u hu 0 (by omega), scn_p i hi u hu 1 (by omega), scn_p i hi u hu 2 (by omega)⟩
theorem scn_all : ∀ i : Nat, i < 9 → scnF (scB i) := by
  intro i hi
  obtain ⟨t1, t2, t3, t4, t5, t6⟩ := scn_t i hi
  refine ⟨t1, t2, scn_v hi (u := 0) (by omega), ⟨t3, t4, t5, t6, fun k hk => ?_⟩, scn_c i hi⟩
  have h := scn_v hi (u := k + 1) (by omega)
  rw [if_neg (by omega), show scB i + 6 + 10 * (k + 1) = scB i + 13 + 3 + 10 * k by omega] at h
  exact h
def RA (A : Nat → Int) : Nat → Nat → Int := fun w k => A (25 + 300 * w + k)
def TA (A : Nat → Int) : Nat → Nat → Nat → Int := fun j w k => A (1225 + 900 * j + 300 * w + k)
def SceneIs (S : MM) (s : Nat) (A : Nat → Int) : Prop := StgIs S (s + 1) A ∧ StgR A ∧ RiverIs S (s + 3) (RA A) ∧ FloodsIs S (s + 13) (A 7).toNat (TA A) ∧ (0 ≤ A 7 ∧ A 7 ≤ 4) ∧ CrossIs S (s + 56) A ∧ RunR A ∧ RunS A (RA A)
theorem SceneIs.rows {S S' : MM} {s : Nat} {A : Nat → Int} (h : SceneIs S s A) (he : ∀ a, s ≤ a → a < s + 64 → S' a = S a) : SceneIs S' s A := by
  obtain ⟨h1, h2, h3, h4, h5, h6, h7, h8⟩ := h
  exact ⟨fun j hj => by rw [he _ (by omega) (by omega)]; exact h1 j hj, h2, h3.rows (fun a q1 q2 => he a (by omega) (by omega)), h4.rows (fun a q1 q2 => he a (by omega) (by omega)), h5, h6.rows (fun a q1 q2 => he a (by omega) (by omega)), h7, h8⟩
theorem SceneIs.congr {S : MM} {s : Nat} {A A' : Nat → Int} (h : SceneIs S s A) (he : ∀ k, k < 4825 → A' k = A k) : SceneIs S s A' := by
  obtain ⟨h1, h2, h3, h4, h5, h6, h7, h8⟩ := h
  have e7 := he 7 (by omega)
  have eR : ∀ w k, w < 3 → k < 300 → RA A' w k = RA A w k := fun w k hw hk => he _ (by omega)
  refine ⟨fun j hj => by rw [he j (by omega)]; exact h1 j hj, ?_, h3.congr eR, ?_, by rw [e7]; exact h5, h6.congr (fun k _ hk _ => he k (by omega)) (fun k _ hk => he k (by omega)), h7.congr (fun k _ hk _ => he k (by omega)) (fun k _ hk => he k (by omega)), ?_⟩
  · unfold StgR
    rw [he 0 (by omega), he 1 (by omega), he 2 (by omega), he 3 (by omega)]
    exact h2
  · rw [e7]
    have := h4.2.2.2.1
    exact h4.congr (fun j w k hj hw hk => he _ (by omega))
  · obtain ⟨g1, g2, g3⟩ := h8
    have hs : ∀ w, w < 3 → A' (20 + w) = A (20 + w) := fun w hw => he _ (by omega)
    unfold RunS
    rw [he 4 (by omega), he 1 (by omega), he 5 (by omega)]
    refine ⟨g1, fun q => ⟨fun w hw => ?_, ?_⟩, fun q w hw => ?_⟩
    · have := (g2 q).1 w hw
      have hb := (h7.2.2.2.2 w hw).1
      rw [hs w hw, eR w _ hw (by omega)]
      exact this
    · obtain ⟨w, hw, hlt⟩ := (g2 q).2
      exact ⟨w, hw, by rw [hs w hw]; exact hlt⟩
    · have hb := (h7.2.2.2.2 w hw).1
      rw [hs w hw]
      by_cases z : A (20 + w) = 300
      · exact Or.inl z
      · rw [eR w _ hw (by omega)]
        exact g3 q w hw
/-- the same scene with another run -/
theorem SceneIs.run {S S' : MM} {s : Nat} {A A' : Nat → Int} (h : SceneIs S s A) (hf : ∀ a, s ≤ a → a < s + 56 → S' a = S a) (hk : ∀ k, (k < 4 ∨ k = 7 ∨ (25 ≤ k ∧ k < 925) ∨ 1225 ≤ k) → A' k = A k) (hC : CrossIs S' (s + 56) A') (hr : RunR A') (hs : RunS A' (RA A)) : SceneIs S' s A' := by
  obtain ⟨h1, h2, h3, h4, h5, h6, h7, h8⟩ := h
  have e7 := hk 7 (by omega)
  have eR : ∀ w k, w < 3 → k < 300 → RA A' w k = RA A w k := fun w k hw hk2 => hk _ (by omega)
  refine ⟨fun j hj => by rw [hf _ (by omega) (by omega), hk j (by omega)]; exact h1 j hj, ?_, (h3.rows (fun a q1 q2 => hf a (by omega) (by omega))).congr eR, ?_, by rw [e7]; exact h5, hC, hr, ?_⟩
  · unfold StgR
    rw [hk 0 (by omega), hk 1 (by omega), hk 2 (by omega), hk 3 (by omega)]
    exact h2
  · rw [e7]
    exact (h4.rows (fun a q1 q2 => hf a (by omega) (by omega))).congr (fun j w k hj hw hk2 => hk _ (by omega))
  · obtain ⟨g1, g2, g3⟩ := hs
    refine ⟨g1, fun q => ⟨fun w hw => ?_, (g2 q).2⟩, fun q w hw => ?_⟩
    · have hb := (hr.2.2.2.2 w hw).1
      have := (g2 q).1 w hw
      rw [eR w _ hw (by omega)]
      exact this
    · have hb := (hr.2.2.2.2 w hw).1
      by_cases z : A' (20 + w) = 300
      · exact Or.inl z
      · rw [eR w _ hw (by omega)]
        exact g3 q w hw
section SCN
variable {S : MM} {s : Nat} {A : Nat → Int}
def mSet (A : Nat → Int) (j : Nat) (z : Int) : Nat → Int := mOvr (up A j z) (up A j z 1)
theorem mOvr_k {hi : Int} {k : Nat} (h : k ≠ 4) : mOvr A hi k = A k := by
  unfold mOvr
  split
  · rw [up_ne h]
  · rfl
theorem RunR_ovr {hi : Int} (hr : RunR A) : RunR (mOvr A hi) := by
  have eM : MetA (mOvr A hi) = MetA A := by
    funext k
    exact mOvr_k (by omega)
  obtain ⟨g1, g2, g3, g4, g5⟩ := hr
  unfold RunR
  rw [eM, mOvr_k (by omega), mOvr_k (k := 6) (by omega)]
  refine ⟨g1, g2, g3, g4, fun w hw => ?_⟩
  rw [mOvr_k (by omega), mOvr_k (k := 8 + w) (by omega), mOvr_k (k := 14 + w) (by omega), mOvr_k (k := 11 + w) (by omega), mOvr_k (k := 17 + w) (by omega)]
  exact g5 w hw
theorem RunS_ovr {hi : Int} {R : Nat → Nat → Int} (h4 : 0 ≤ A 4 ∧ A 4 ≤ 2) (hr : RunR A) (hs1 : A 4 = 1 → (∀ w : Nat, w < 3 → A (20 + w) < 300 ∧ 0 < R w (A (20 + w)).toNat) ∧ ∃ w : Nat, w < 3 ∧ A (20 + w) < A 5) (hs2 : A 4 = 2 → ∀ w : Nat, w < 3 → A (20 + w) = 300 ∨ 0 < R w (A (20 + w)).toNat) (hhi : hi = A 1) : RunS (mOvr A hi) R := by
  have hg := gr3_s (A 20) (A 21) (A 22)
  have hle : ∀ w : Nat, w < 3 → A (20 + w) ≤ gr3 (A 20) (A 21) (A 22) := by
    intro w hw
    rcases (show w = 0 ∨ w = 1 ∨ w = 2 by omega) with rfl | rfl | rfl
    · exact hg.1
    · exact hg.2.1
    · exact hg.2.2.1
  unfold mOvr
  by_cases c : A 4 = 1 ∧ hi < gr3 (A 20) (A 21) (A 22)
  · rw [if_pos c]
    refine ⟨by rw [up_eq]; omega, fun q => by rw [up_eq] at q; omega, fun _ w hw => ?_⟩
    rw [up_ne (by omega)]
    exact Or.inr ((hs1 c.1).1 w hw).2
  · rw [if_neg c]
    refine ⟨h4, fun q => ⟨fun w hw => ?_, (hs1 q).2⟩, hs2⟩
    have h1 := (hs1 q).1 w hw
    have h2 := hle w hw
    refine ⟨h1.1, ?_, h1.2⟩
    by_cases z : hi < gr3 (A 20) (A 21) (A 22)
    · exact absurd ⟨q, z⟩ c
    · omega
theorem s_changeSetting {j z : Int} (hs : scnF s) (h : SceneIs S s A) (hj : 0 ≤ j ∧ j ≤ 3) (hz : 0 ≤ z ∧ z ≤ (if j = 2 then 2 else if j = 3 then 5 else 299)) : ∃ S', fX6_changeSetting [vR s, vI j, vI z] S = some (some (vI (A j.toNat)), S') ∧ SceneIs S' s (mSet A j.toNat z) ∧ (∀ a, a < s ∨ s + 64 ≤ a → S' a = S a) := by
  obtain ⟨k0, ht, hv, hd, hc⟩ := hs
  obtain ⟨t0, -⟩ := id ht
  obtain ⟨⟨c0, -⟩, -⟩ := id hc
  obtain ⟨h1, h2, h3, h4, h5, h6, h7, h8⟩ := id h
  have hz3 : 0 ≤ z ∧ z ≤ 299 := by
    by_cases q2 : j = 2
    · rw [if_pos q2] at hz
      omega
    · rw [if_neg q2] at hz
      by_cases q3 : j = 3
      · rw [if_pos q3] at hz
        omega
      · rw [if_neg q3] at hz
        exact hz
  have e1 := s_valueOf (S := S) (j := j) ht hj
  rw [h1 j.toNat (by omega)] at e1
  have e2 := s_change (S := S) (j := j) (z := z) ht hj
  have hA : ∀ k, k ≠ j.toNat → up A j.toNat z k = A k := fun k hk => up_ne hk
  have hC0 : CrossIs (updM S (s + 2) j.toNat z) (s + 56) (up A j.toNat z) := (h6.rows (fun a q1 q2 => updM_ne (by omega))).congr (fun k q1 q2 q3 => hA k (by omega)) (fun k q1 q2 => hA k (by omega))
  have hr0 : RunR (up A j.toNat z) := h7.congr (fun k q1 q2 q3 => hA k (by omega)) (fun k q1 q2 => hA k (by omega))
  have hR0 : RA (up A j.toNat z) = RA A := by
    funext w k
    exact hA _ (by omega)
  have hstg : StgIs (updM S (s + 2) j.toNat z) (s + 1) (up A j.toNat z) := by
    intro i hi
    show updM S (s + 2) j.toNat z (s + 2) i = _
    rw [updM_eq]
    by_cases q : i = j.toNat
    · rw [q, up_eq, up_eq]
    · rw [up_ne q, up_ne q]
      exact h1 i hi
  have hstr : StgR (up A j.toNat z) := by
    obtain ⟨y0, y1, y2, y3⟩ := h2
    rcases (show j = 0 ∨ j = 1 ∨ j = 2 ∨ j = 3 by omega) with rfl | rfl | rfl | rfl
    · exact ⟨hz3, y1, y2, y3⟩
    · exact ⟨y0, hz3, y2, y3⟩
    · exact ⟨y0, y1, (show 0 ≤ z ∧ z ≤ 2 by simpa using hz), y3⟩
    · exact ⟨y0, y1, y2, (show 0 ≤ z ∧ z ≤ 5 by simpa using hz)⟩
  have e4 : up A j.toNat z 4 = A 4 := hA 4 (by omega)
  have e5 : up A j.toNat z 5 = A 5 := hA 5 (by omega)
  have e20 : ∀ w : Nat, up A j.toNat z (20 + w) = A (20 + w) := fun w => hA _ (by omega)
  have hs0 : RunS (mSet A j.toNat z) (RA A) := by
    unfold mSet
    refine RunS_ovr (by rw [e4]; exact h8.1) hr0 (fun q => ?_) (fun q w hw => ?_) rfl
    · rw [e4] at q
      refine ⟨fun w hw => ?_, ?_⟩
      · rw [e20]
        have := (h8.2.1 q).1 w hw
        exact ⟨this.1, this.2.2⟩
      · obtain ⟨w, hw, hlt⟩ := (h8.2.1 q).2
        exact ⟨w, hw, by rw [e20, e5]; exact hlt⟩
    · rw [e4] at q
      rw [e20]
      exact h8.2.2 q w hw
  have fin : ∀ T : MM, CrossIs T (s + 56) (mSet A j.toNat z) → (∀ a, a ≠ s + 56 → T a = updM S (s + 2) j.toNat z a) → SceneIs T s (mSet A j.toNat z) := by
    intro T hC hT
    have hm : ∀ k, k ≠ 4 → mSet A j.toNat z k = up A j.toNat z k := fun k hk => mOvr_k hk
    have e7 : mSet A j.toNat z 7 = A 7 := by rw [hm 7 (by omega), hA 7 (by omega)]
    have eRA : RA (mSet A j.toNat z) = RA A := by
      funext w k
      show mSet A j.toNat z (25 + 300 * w + k) = _
      rw [hm _ (by omega)]
      exact hA _ (by omega)
    refine ⟨fun i hi => by rw [hT _ (by omega), hm i (by omega)]; exact hstg i hi, ?_, ?_, ?_, by rw [e7]; exact h5, hC, RunR_ovr hr0, by rw [eRA]; exact hs0⟩
    · unfold StgR
      rw [hm 0 (by omega), hm 1 (by omega), hm 2 (by omega), hm 3 (by omega)]
      exact hstr
    · rw [eRA]
      exact h3.rows (fun a q1 q2 => by rw [hT a (by omega), updM_ne (by omega)])
    · rw [e7]
      refine (h4.rows (fun a q1 q2 => by rw [hT a (by omega), updM_ne (by omega)])).congr (fun i w k hi hw hk => ?_)
      show mSet A j.toNat z (1225 + 900 * i + 300 * w + k) = _
      rw [hm _ (by omega)]
      exact hA _ (by omega)
  rw [uX6_changeSetting]
  by_cases c : j = 1
  · subst c
    obtain ⟨T, f1, f2, f3⟩ := s_endAbove (S := updM S (s + 2) 1 z) (hi := z) hc hC0 hr0 ⟨by omega, by omega⟩
    refine ⟨T, ?_, fin T f2 f3, fun a ha => by rw [f3 a (by omega), updM_ne (by omega)]⟩
    rw [tn1] at e2
    simp (disch := omega) only [eX6_changeSetting_0, eX6_changeSetting_1, eX6_changeSetting_4, eX6_changeSetting_5, eX6_changeSetting_8, eX6_changeSetting_9, eX6_changeSetting_10, eX6_changeSetting_13, eX6_changeSetting_14, eX6_changeSetting_15, eX6_changeSetting_18, eX6_changeSetting_19, eX6_changeSetting_20, eX6_changeSetting_23, eX6_changeSetting_24, eX6_changeSetting_27, eX6_changeSetting_28, eX6_changeSetting_31, eX6_changeSetting_32, if_pos, if_neg, if_true, if_false, Option.bind_some, Option.toList_some, Option.toList_none, List.cons_append, List.nil_append, e1, e2, f1]
  · refine ⟨updM S (s + 2) j.toNat z, ?_, fin _ ?_ (fun _ _ => rfl), fun a ha => updM_ne (by omega)⟩
    · simp (disch := omega) only [eX6_changeSetting_0, eX6_changeSetting_1, eX6_changeSetting_4, eX6_changeSetting_5, eX6_changeSetting_8, eX6_changeSetting_9, eX6_changeSetting_10, eX6_changeSetting_13, eX6_changeSetting_14, eX6_changeSetting_15, eX6_changeSetting_18, eX6_changeSetting_19, eX6_changeSetting_20, eX6_changeSetting_23, eX6_changeSetting_24, eX6_changeSetting_27, eX6_changeSetting_28, eX6_changeSetting_31, eX6_changeSetting_32, if_pos, if_neg, if_true, if_false, Option.bind_some, Option.toList_some, Option.toList_none, List.cons_append, List.nil_append, e1, e2]
    · have hno : mSet A j.toNat z = up A j.toNat z := by
        unfold mSet mOvr
        rw [if_neg]
        rintro ⟨q1, q2⟩
        rw [e4] at q1
        have g0 := ((h8.2.1 q1).1 0 (by omega)).2.1
        have g1 := ((h8.2.1 q1).1 1 (by omega)).2.1
        have g2 := ((h8.2.1 q1).1 2 (by omega)).2.1
        have hg := gr3_s (up A j.toNat z 20) (up A j.toNat z 21) (up A j.toNat z 22)
        rw [hA 20 (by omega), hA 21 (by omega), hA 22 (by omega)] at hg q2
        rw [hA 1 (by omega)] at q2
        have g0 : A 20 ≤ A 1 := g0
        have g1 : A 21 ≤ A 1 := g1
        have g2 : A 22 ≤ A 1 := g2
        omega
      rw [hno]
      exact hC0
theorem s_isRange {a b : Int} {S : MM} (ha : rng a) (hb : rng b) : fX8_isRange [vI a, vI b] S = some (some (vI (if (0 ≤ a ∧ a ≤ 299) ∧ a ≤ b ∧ b ≤ 299 then 1 else 0)), S) := by
  have e1 := s_isBetween (S := S) (a := a) (b := 0) (c := 299) ha ⟨by omega, by omega⟩ ⟨by omega, by omega⟩
  have e2 := s_isBetween (S := S) (a := b) (b := a) (c := 299) hb ha ⟨by omega, by omega⟩
  rw [uX8_isRange]
  by_cases q : 0 ≤ a ∧ a ≤ 299
  · rw [if_pos q] at e1
    by_cases z : a ≤ b ∧ b ≤ 299
    · rw [if_pos z] at e2
      rw [if_pos ⟨q, z⟩]
      simp (disch := omega) only [eX8_isRange_0, eX8_isRange_1, eX8_isRange_2, eX8_isRange_5, eX8_isRange_8, eX8_isRange_11, eX8_isRange_12, eX8_isRange_13, eX8_isRange_16, eX8_isRange_19, eX8_isRange_22, eX8_isRange_23, eX8_isRange_26, eX8_isRange_27, if_pos, if_neg, if_true, if_false, Option.bind_some, Option.toList_some, Option.toList_none, List.cons_append, List.nil_append, e1, e2]
    · rw [if_neg z] at e2
      rw [if_neg (fun y => z y.2)]
      simp (disch := omega) only [eX8_isRange_0, eX8_isRange_1, eX8_isRange_2, eX8_isRange_5, eX8_isRange_8, eX8_isRange_11, eX8_isRange_12, eX8_isRange_13, eX8_isRange_16, eX8_isRange_19, eX8_isRange_22, eX8_isRange_23, eX8_isRange_26, eX8_isRange_27, if_pos, if_neg, if_true, if_false, Option.bind_some, Option.toList_some, Option.toList_none, List.cons_append, List.nil_append, e1, e2]
  · rw [if_neg q] at e1
    rw [if_neg (fun y => q y.1)]
    simp (disch := omega) only [eX8_isRange_0, eX8_isRange_1, eX8_isRange_2, eX8_isRange_5, eX8_isRange_8, eX8_isRange_11, eX8_isRange_12, eX8_isRange_13, eX8_isRange_16, eX8_isRange_19, eX8_isRange_22, eX8_isRange_23, eX8_isRange_26, eX8_isRange_27, if_pos, if_neg, if_true, if_false, Option.bind_some, Option.toList_some, Option.toList_none, List.cons_append, List.nil_append, e1]
def errLay (A : Nat → Int) (w key t : Int) : Int := if ¬ (0 ≤ w ∧ w ≤ 2) then -1 else if ¬ (0 ≤ key ∧ key ≤ 299) ∨ ¬ (1 ≤ t ∧ t ≤ 9) then -2 else if cnt (RA A w.toNat) 300 < 40 ∨ 0 < RA A w.toNat key.toNat then 0 else -4
theorem s_errorOfLaying {w key t : Int} (hs : scnF s) (hR : RiverIs S (s + 3) (RA A)) (hw : rng w) (hk : rng key) (ht : rng t) : fX6_errorOfLaying [vR s, vI w, vI key, vI t] S = some (some (vI (errLay A w key t)), S) := by
  obtain ⟨k0, -, hv, -⟩ := hs
  obtain ⟨v0, -⟩ := id hv
  have e0 := s_isWalker (S := S) hw
  have e1 := s_isBetween (S := S) (a := key) (b := 0) (c := 299) hk ⟨by omega, by omega⟩ ⟨by omega, by omega⟩
  have e2 := s_isBetween (S := S) (a := t) (b := 1) (c := 9) ht ⟨by omega, by omega⟩ ⟨by omega, by omega⟩
  unfold errLay
  rw [uX6_errorOfLaying]
  by_cases q : 0 ≤ w ∧ w ≤ 2
  · rw [if_pos q] at e0
    rw [if_neg (fun y => y q)]
    by_cases q1 : 0 ≤ key ∧ key ≤ 299
    · rw [if_pos q1] at e1
      by_cases q2 : 1 ≤ t ∧ t ≤ 9
      · rw [if_pos q2] at e2
        rw [if_neg (fun y => by rcases y with y | y; exact y q1; exact y q2)]
        have hp := riv_pw hv q
        obtain ⟨p0, -⟩ := id hp
        have e3 := s_pathOf (S := S) hv.1 q
        have e4 := s_hasRoomFor hp (hR.pw q) hk
        have erv : rv (RA A w.toNat) key = RA A w.toNat key.toNat := by unfold rv; rw [if_pos (by omega)]
        rw [erv] at e4
        by_cases z : cnt (RA A w.toNat) 300 < 40 ∨ 0 < RA A w.toNat key.toNat
        · rw [if_pos z] at e4
          rw [if_pos z]
          simp (disch := omega) only [eX6_errorOfLaying_0, eX6_errorOfLaying_1, eX6_errorOfLaying_4, eX6_errorOfLaying_7, eX6_errorOfLaying_8, eX6_errorOfLaying_9, eX6_errorOfLaying_10, eX6_errorOfLaying_11, eX6_errorOfLaying_14, eX6_errorOfLaying_17, eX6_errorOfLaying_20, eX6_errorOfLaying_21, eX6_errorOfLaying_22, eX6_errorOfLaying_24, eX6_errorOfLaying_27, eX6_errorOfLaying_30, eX6_errorOfLaying_32, eX6_errorOfLaying_33, eX6_errorOfLaying_34, eX6_errorOfLaying_37, eX6_errorOfLaying_38, eX6_errorOfLaying_41, eX6_errorOfLaying_42, eX6_errorOfLaying_45, eX6_errorOfLaying_48, eX6_errorOfLaying_49, eX6_errorOfLaying_52, eX6_errorOfLaying_54, if_pos, if_neg, if_true, if_false, Option.bind_some, Option.toList_some, Option.toList_none, List.cons_append, List.nil_append, e0, e1, e2, e3, e4]
        · rw [if_neg z] at e4
          rw [if_neg z]
          simp (disch := omega) only [eX6_errorOfLaying_0, eX6_errorOfLaying_1, eX6_errorOfLaying_4, eX6_errorOfLaying_7, eX6_errorOfLaying_8, eX6_errorOfLaying_9, eX6_errorOfLaying_10, eX6_errorOfLaying_11, eX6_errorOfLaying_14, eX6_errorOfLaying_17, eX6_errorOfLaying_20, eX6_errorOfLaying_21, eX6_errorOfLaying_22, eX6_errorOfLaying_24, eX6_errorOfLaying_27, eX6_errorOfLaying_30, eX6_errorOfLaying_32, eX6_errorOfLaying_33, eX6_errorOfLaying_34, eX6_errorOfLaying_37, eX6_errorOfLaying_38, eX6_errorOfLaying_41, eX6_errorOfLaying_42, eX6_errorOfLaying_45, eX6_errorOfLaying_48, eX6_errorOfLaying_49, eX6_errorOfLaying_52, eX6_errorOfLaying_54, if_pos, if_neg, if_true, if_false, Option.bind_some, Option.toList_some, Option.toList_none, List.cons_append, List.nil_append, e0, e1, e2, e3, e4]
      · rw [if_neg q2] at e2
        rw [if_pos (Or.inr q2)]
        simp (disch := omega) only [eX6_errorOfLaying_0, eX6_errorOfLaying_1, eX6_errorOfLaying_4, eX6_errorOfLaying_7, eX6_errorOfLaying_8, eX6_errorOfLaying_9, eX6_errorOfLaying_10, eX6_errorOfLaying_11, eX6_errorOfLaying_14, eX6_errorOfLaying_17, eX6_errorOfLaying_20, eX6_errorOfLaying_21, eX6_errorOfLaying_22, eX6_errorOfLaying_24, eX6_errorOfLaying_27, eX6_errorOfLaying_30, eX6_errorOfLaying_32, eX6_errorOfLaying_33, eX6_errorOfLaying_34, eX6_errorOfLaying_37, eX6_errorOfLaying_38, eX6_errorOfLaying_41, eX6_errorOfLaying_42, eX6_errorOfLaying_45, eX6_errorOfLaying_48, eX6_errorOfLaying_49, eX6_errorOfLaying_52, eX6_errorOfLaying_54, if_pos, if_neg, if_true, if_false, Option.bind_some, Option.toList_some, Option.toList_none, List.cons_append, List.nil_append, e0, e1, e2]
    · rw [if_neg q1] at e1
      rw [if_pos (Or.inl q1)]
      simp (disch := omega) only [eX6_errorOfLaying_0, eX6_errorOfLaying_1, eX6_errorOfLaying_4, eX6_errorOfLaying_7, eX6_errorOfLaying_8, eX6_errorOfLaying_9, eX6_errorOfLaying_10, eX6_errorOfLaying_11, eX6_errorOfLaying_14, eX6_errorOfLaying_17, eX6_errorOfLaying_20, eX6_errorOfLaying_21, eX6_errorOfLaying_22, eX6_errorOfLaying_24, eX6_errorOfLaying_27, eX6_errorOfLaying_30, eX6_errorOfLaying_32, eX6_errorOfLaying_33, eX6_errorOfLaying_34, eX6_errorOfLaying_37, eX6_errorOfLaying_38, eX6_errorOfLaying_41, eX6_errorOfLaying_42, eX6_errorOfLaying_45, eX6_errorOfLaying_48, eX6_errorOfLaying_49, eX6_errorOfLaying_52, eX6_errorOfLaying_54, if_pos, if_neg, if_true, if_false, Option.bind_some, Option.toList_some, Option.toList_none, List.cons_append, List.nil_append, e0, e1]
  · rw [if_neg q] at e0
    rw [if_pos q]
    simp (disch := omega) only [eX6_errorOfLaying_0, eX6_errorOfLaying_1, eX6_errorOfLaying_4, eX6_errorOfLaying_7, eX6_errorOfLaying_8, eX6_errorOfLaying_9, eX6_errorOfLaying_10, eX6_errorOfLaying_11, eX6_errorOfLaying_14, eX6_errorOfLaying_17, eX6_errorOfLaying_20, eX6_errorOfLaying_21, eX6_errorOfLaying_22, eX6_errorOfLaying_24, eX6_errorOfLaying_27, eX6_errorOfLaying_30, eX6_errorOfLaying_32, eX6_errorOfLaying_33, eX6_errorOfLaying_34, eX6_errorOfLaying_37, eX6_errorOfLaying_38, eX6_errorOfLaying_41, eX6_errorOfLaying_42, eX6_errorOfLaying_45, eX6_errorOfLaying_48, eX6_errorOfLaying_49, eX6_errorOfLaying_52, eX6_errorOfLaying_54, if_pos, if_neg, if_true, if_false, Option.bind_some, Option.toList_some, Option.toList_none, List.cons_append, List.nil_append, e0]
def mLay (A : Nat → Int) (w key t : Int) : Nat → Int := up A (25 + 300 * w.toNat + key.toNat) t
theorem s_lay {w key t : Int} (hs : scnF s) (h : SceneIs S s A) (hw : 0 ≤ w ∧ w ≤ 2) (hk : 0 ≤ key ∧ key ≤ 299) (ht : 1 ≤ t ∧ t ≤ 9) (hroom : cnt (RA A w.toNat) 300 < 40 ∨ 0 < RA A w.toNat key.toNat) : ∃ S', fX6_lay [vR s, vI w, vI key, vI t] S = some (some (vI (RA A w.toNat key.toNat)), S') ∧ SceneIs S' s (mLay A w key t) ∧ (∀ a, a < s ∨ s + 64 ≤ a → S' a = S a) := by
  obtain ⟨k0, ht7, hv, hd, hc⟩ := hs
  obtain ⟨v0, -⟩ := id hv
  obtain ⟨h1, h2, h3, h4, h5, h6, h7, h8⟩ := id h
  have hp := riv_pw hv hw
  obtain ⟨p0, -⟩ := id hp
  have hP := h3.pw hw
  have hpw : pw (s + 3) w = s + 3 + 1 + 3 * w.toNat := rfl
  have e3 := s_pathOf (S := S) hv.1 hw
  have e4 := s_repeatsOf hp hP (key := key) ⟨by omega, by omega⟩
  have erv : rv (RA A w.toNat) key = RA A w.toNat key.toNat := by unfold rv; rw [if_pos (by omega)]
  rw [erv] at e4
  obtain ⟨T, f1, f2, f3⟩ := s_pathLay hp hP (key := key) (times := t) (by omega) ht (by omega)
  have hL : ∀ k, (k < 25 ∨ 925 ≤ k) → mLay A w key t k = A k := fun k hk2 => up_ne (by omega)
  have hRL : ∀ u k, u < 3 → k < 300 → RA (mLay A w key t) u k = if u = w.toNat then up (RA A w.toNat) key.toNat t k else RA A u k := by
    intro u k hu hk2
    show up A (25 + 300 * w.toNat + key.toNat) t (25 + 300 * u + k) = _
    by_cases q : u = w.toNat
    · rw [if_pos q]
      by_cases z : k = key.toNat
      · rw [z, q, up_eq, up_eq]
      · rw [up_ne (by omega), up_ne z, q]
        rfl
    · rw [if_neg q, up_ne (by omega)]
      rfl
  have hpos : ∀ u k, u < 3 → k < 300 → 0 < RA A u k → 0 < RA (mLay A w key t) u k := by
    intro u k hu hk2 hp2
    rw [hRL u k hu hk2]
    split
    · next q =>
      unfold up
      split
      · omega
      · rw [← q]; exact hp2
    · exact hp2
  refine ⟨T, ?_, ⟨fun j hj => by rw [f3 _ (by omega) (by omega) (by omega), hL j (by omega)]; exact h1 j hj, ?_, ?_, ?_, by rw [hL 7 (by omega)]; exact h5, ?_, ?_, ?_⟩, fun a ha => f3 a (by omega) (by omega) (by omega)⟩
  · rw [uX6_lay]
    simp (disch := omega) only [eX6_lay_0, eX6_lay_1, eX6_lay_4, eX6_lay_5, eX6_lay_8, eX6_lay_10, eX6_lay_12, eX6_lay_13, eX6_lay_16, eX6_lay_18, eX6_lay_20, eX6_lay_21, eX6_lay_22, eX6_lay_25, eX6_lay_27, if_pos, if_neg, if_true, if_false, Option.bind_some, Option.toList_some, Option.toList_none, List.cons_append, List.nil_append, e3, e4, f1]
  · unfold StgR
    rw [hL 0 (by omega), hL 1 (by omega), hL 2 (by omega), hL 3 (by omega)]
    exact h2
  · have other : ∀ u : Nat, u < 3 → u ≠ w.toNat → PathIs S (pw (s + 3) u) (RA A u) → PathIs T (pw (s + 3) u) (RA (mLay A w key t) u) := by
      intro u hu hne hPu
      have e : pw (s + 3) (u : Int) = s + 3 + 1 + 3 * u := by unfold pw; rw [Int.toNat_natCast]
      rw [e] at hPu ⊢
      refine (hPu.rows (by rw [f3 _ (by omega) (by omega) (by omega)]) (f3 _ (by omega) (by omega) (by omega)) (f3 _ (by omega) (by omega) (by omega))).congr (fun k hk2 => ?_)
      rw [hRL u k hu hk2, if_neg hne]
    have same : PathIs T (pw (s + 3) w) (RA (mLay A w key t) w.toNat) := f2.congr (fun k hk2 => by rw [hRL _ k (by omega) hk2, if_pos rfl])
    rcases w3 hw with rfl | rfl | rfl
    · exact ⟨same, other 1 (by omega) (by decide) h3.2.1, other 2 (by omega) (by decide) h3.2.2⟩
    · exact ⟨other 0 (by omega) (by decide) h3.1, same, other 2 (by omega) (by decide) h3.2.2⟩
    · exact ⟨other 0 (by omega) (by decide) h3.1, other 1 (by omega) (by decide) h3.2.1, same⟩
  · rw [hL 7 (by omega)]
    exact (h4.rows (fun a q1 q2 => f3 a (by omega) (by omega) (by omega))).congr (fun j u k hj hu hk2 => hL _ (by omega))
  · exact (h6.rows (fun a q1 q2 => f3 a (by omega) (by omega) (by omega))).congr (fun k q1 q2 q3 => hL k (by omega)) (fun k q1 q2 => hL k (by omega))
  · exact h7.congr (fun k q1 q2 q3 => hL k (by omega)) (fun k q1 q2 => hL k (by omega))
  · obtain ⟨g1, g2, g3⟩ := h8
    unfold RunS
    rw [hL 4 (by omega), hL 1 (by omega), hL 5 (by omega)]
    refine ⟨g1, fun q => ⟨fun u hu => ?_, ?_⟩, fun q u hu => ?_⟩
    · have hb := (h7.2.2.2.2 u hu).1
      have := (g2 q).1 u hu
      rw [hL _ (by omega)]
      exact ⟨this.1, this.2.1, hpos u _ hu (by omega) this.2.2⟩
    · obtain ⟨u, hu, hlt⟩ := (g2 q).2
      exact ⟨u, hu, by rw [hL _ (by omega)]; exact hlt⟩
    · have hb := (h7.2.2.2.2 u hu).1
      rw [hL _ (by omega)]
      by_cases z : A (20 + u) = 300
      · exact Or.inl z
      · rcases g3 q u hu with y | y
        · exact Or.inl y
        · exact Or.inr (hpos u _ hu (by omega) y)
theorem s_errorOfFlooding {w a b : Int} (hs : scnF s) (hw : rng w) (ha : rng a) (hb : rng b) : fX6_errorOfFlooding [vR s, vI w, vI a, vI b] S = some (some (vI (if w ≠ -6 ∧ ¬ (0 ≤ w ∧ w ≤ 2) then -1 else if (0 ≤ a ∧ a ≤ 299) ∧ a ≤ b ∧ b ≤ 299 then 0 else -2)), S) := by
  obtain ⟨k0, -⟩ := hs
  have e0 := s_isWalker (S := S) hw
  have e1 := s_isRange (S := S) ha hb
  obtain ⟨w1, w2⟩ := hw
  rw [uX6_errorOfFlooding]
  by_cases z : (0 ≤ a ∧ a ≤ 299) ∧ a ≤ b ∧ b ≤ 299
  · rw [if_pos z] at e1
    by_cases q : 0 ≤ w ∧ w ≤ 2
    · rw [if_pos q] at e0
      rw [if_neg (fun y => y.2 q), if_pos z]
      simp (disch := omega) only [eX6_errorOfFlooding_0, eX6_errorOfFlooding_1, eX6_errorOfFlooding_3, eX6_errorOfFlooding_6, eX6_errorOfFlooding_7, eX6_errorOfFlooding_10, eX6_errorOfFlooding_13, eX6_errorOfFlooding_14, eX6_errorOfFlooding_15, eX6_errorOfFlooding_16, eX6_errorOfFlooding_17, eX6_errorOfFlooding_20, eX6_errorOfFlooding_23, eX6_errorOfFlooding_24, eX6_errorOfFlooding_27, eX6_errorOfFlooding_29, if_pos, if_neg, if_true, if_false, Option.bind_some, Option.toList_some, Option.toList_none, List.cons_append, List.nil_append, e0, e1]
    · rw [if_neg q] at e0
      by_cases y : w = -6
      · rw [if_neg (fun x => x.1 y), if_pos z]
        simp (disch := omega) only [eX6_errorOfFlooding_0, eX6_errorOfFlooding_1, eX6_errorOfFlooding_3, eX6_errorOfFlooding_6, eX6_errorOfFlooding_7, eX6_errorOfFlooding_10, eX6_errorOfFlooding_13, eX6_errorOfFlooding_14, eX6_errorOfFlooding_15, eX6_errorOfFlooding_16, eX6_errorOfFlooding_17, eX6_errorOfFlooding_20, eX6_errorOfFlooding_23, eX6_errorOfFlooding_24, eX6_errorOfFlooding_27, eX6_errorOfFlooding_29, if_pos, if_neg, if_true, if_false, Option.bind_some, Option.toList_some, Option.toList_none, List.cons_append, List.nil_append, e0, e1]
      · rw [if_pos ⟨y, q⟩]
        simp (disch := omega) only [eX6_errorOfFlooding_0, eX6_errorOfFlooding_1, eX6_errorOfFlooding_3, eX6_errorOfFlooding_6, eX6_errorOfFlooding_7, eX6_errorOfFlooding_10, eX6_errorOfFlooding_13, eX6_errorOfFlooding_14, eX6_errorOfFlooding_15, eX6_errorOfFlooding_16, eX6_errorOfFlooding_17, eX6_errorOfFlooding_20, eX6_errorOfFlooding_23, eX6_errorOfFlooding_24, eX6_errorOfFlooding_27, eX6_errorOfFlooding_29, if_pos, if_neg, if_true, if_false, Option.bind_some, Option.toList_some, Option.toList_none, List.cons_append, List.nil_append, e0, e1]
  · rw [if_neg z] at e1
    by_cases q : 0 ≤ w ∧ w ≤ 2
    · rw [if_pos q] at e0
      rw [if_neg (fun y => y.2 q), if_neg z]
      simp (disch := omega) only [eX6_errorOfFlooding_0, eX6_errorOfFlooding_1, eX6_errorOfFlooding_3, eX6_errorOfFlooding_6, eX6_errorOfFlooding_7, eX6_errorOfFlooding_10, eX6_errorOfFlooding_13, eX6_errorOfFlooding_14, eX6_errorOfFlooding_15, eX6_errorOfFlooding_16, eX6_errorOfFlooding_17, eX6_errorOfFlooding_20, eX6_errorOfFlooding_23, eX6_errorOfFlooding_24, eX6_errorOfFlooding_27, eX6_errorOfFlooding_29, if_pos, if_neg, if_true, if_false, Option.bind_some, Option.toList_some, Option.toList_none, List.cons_append, List.nil_append, e0, e1]
    · rw [if_neg q] at e0
      by_cases y : w = -6
      · rw [if_neg (fun x => x.1 y), if_neg z]
        simp (disch := omega) only [eX6_errorOfFlooding_0, eX6_errorOfFlooding_1, eX6_errorOfFlooding_3, eX6_errorOfFlooding_6, eX6_errorOfFlooding_7, eX6_errorOfFlooding_10, eX6_errorOfFlooding_13, eX6_errorOfFlooding_14, eX6_errorOfFlooding_15, eX6_errorOfFlooding_16, eX6_errorOfFlooding_17, eX6_errorOfFlooding_20, eX6_errorOfFlooding_23, eX6_errorOfFlooding_24, eX6_errorOfFlooding_27, eX6_errorOfFlooding_29, if_pos, if_neg, if_true, if_false, Option.bind_some, Option.toList_some, Option.toList_none, List.cons_append, List.nil_append, e0, e1]
      · rw [if_pos ⟨y, q⟩]
        simp (disch := omega) only [eX6_errorOfFlooding_0, eX6_errorOfFlooding_1, eX6_errorOfFlooding_3, eX6_errorOfFlooding_6, eX6_errorOfFlooding_7, eX6_errorOfFlooding_10, eX6_errorOfFlooding_13, eX6_errorOfFlooding_14, eX6_errorOfFlooding_15, eX6_errorOfFlooding_16, eX6_errorOfFlooding_17, eX6_errorOfFlooding_20, eX6_errorOfFlooding_23, eX6_errorOfFlooding_24, eX6_errorOfFlooding_27, eX6_errorOfFlooding_29, if_pos, if_neg, if_true, if_false, Option.bind_some, Option.toList_some, Option.toList_none, List.cons_append, List.nil_append, e0, e1]
def mBegin (A : Nat → Int) : Nat → Int := mLook (mBeg A (RA A)) (RA A)
theorem s_scStart (hs : scnF s) (h : SceneIs S s A) (hT : TNS S) (hs6 : s < 530) : ∃ S', fX6_start [vR s] S = some (some (vI (if mBegin A 4 = 2 then 1 else 0)), S') ∧ SceneIs S' s (mBegin A) ∧ (∀ a, a < s ∨ s + 64 ≤ a → S' a = S a) := by
  obtain ⟨k0, ht, hv, hd, hc⟩ := hs
  obtain ⟨⟨c0, -⟩, -⟩ := id hc
  obtain ⟨h1, h2, h3, h4, h5, h6, h7, h8⟩ := id h
  obtain ⟨T, e1, e2, e3⟩ := s_start hc hv (by omega) ht (by omega) h2 h1 h3 hT (by omega)
  have e4 := s_isOver hc e2
  have hA1 : (mBeg A (RA A)) 1 = A 1 := rfl
  have hr := RunR_look (R := RA A) (RunR_beg h2) (by rw [hA1]; exact h2.2.1) h3.rb
  have hs := RunS_look (R := RA A) (RunR_beg h2) (by rw [hA1]; exact h2.2.1) (by show 0 ≤ (1 : Int) ∧ (1 : Int) ≤ 2; omega) (fun _ => onS_beg h2)
  refine ⟨T, ?_, h.run (fun a q1 q2 => e3 a (by omega)) (fun k hk => ?_) e2 hr hs, fun a ha => e3 a (by omega)⟩
  · rw [uX6_start]
    by_cases q : mBegin A 4 = 2
    · rw [show mLook (mBeg A (RA A)) (RA A) = mBegin A from rfl, if_pos q] at e4
      rw [if_pos q]
      simp (disch := omega) only [eX6_start_0, eX6_start_1, eX6_start_4, eX6_start_5, eX6_start_8, eX6_start_9, eX6_start_12, eX6_start_15, eX6_start_16, eX6_start_19, eX6_start_22, eX6_start_25, eX6_start_26, eX6_start_29, eX6_start_30, if_pos, if_neg, if_true, if_false, Option.bind_some, Option.toList_some, Option.toList_none, List.cons_append, List.nil_append, e1, e4]
    · rw [show mLook (mBeg A (RA A)) (RA A) = mBegin A from rfl, if_neg q] at e4
      rw [if_neg q]
      simp (disch := omega) only [eX6_start_0, eX6_start_1, eX6_start_4, eX6_start_5, eX6_start_8, eX6_start_9, eX6_start_12, eX6_start_15, eX6_start_16, eX6_start_19, eX6_start_22, eX6_start_25, eX6_start_26, eX6_start_29, eX6_start_30, if_pos, if_neg, if_true, if_false, Option.bind_some, Option.toList_some, Option.toList_none, List.cons_append, List.nil_append, e1, e4]
  · show mLook (mBeg A (RA A)) (RA A) k = A k
    rw [mLook_ne (by omega) (by omega) (by omega) (Or.inr (Or.inr (by rw [hA1]; exact h2.2.1.2))), mBeg_k (by omega)]
theorem s_scStep (hs : scnF s) (h : SceneIs S s A) (hT : TNS S) (hs6 : s < 530) (h4' : A 4 = 1) : ∃ S', fX6_step [vR s] S = some (some (vI (nxtW A)), S') ∧ SceneIs S' s (mLeap A (RA A)) ∧ (∀ a, a < s ∨ s + 64 ≤ a → S' a = S a) := by
  obtain ⟨k0, ht, hv, hd, hc⟩ := hs
  obtain ⟨⟨c0, -⟩, -⟩ := id hc
  obtain ⟨h1, h2, h3, h4, h5, h6, h7, h8⟩ := id h
  obtain ⟨T, e1, e2, e3⟩ := s_step hc hv (by omega) ht (by omega) h2 h1 h3 hT (by omega) h6 h7 h8 h4'
  have hi := leap_inv h2 h7 h8 h3.rb h4'
  refine ⟨T, ?_, h.run (fun a q1 q2 => e3 a (by omega)) (fun k hk => mLeap_lo h7 h2.2.1.2 (by omega)) e2 hi.1 hi.2, fun a ha => e3 a (by omega)⟩
  rw [uX6_step]
  simp (disch := omega) only [eX6_step_0, eX6_step_1, eX6_step_4, eX6_step_5, eX6_step_8, eX6_step_9, eX6_step_12, eX6_step_15, if_pos, if_neg, if_true, if_false, Option.bind_some, Option.toList_some, Option.toList_none, List.cons_append, List.nil_append, e1]
theorem s_scFinish (hs : scnF s) (h : SceneIs S s A) (hT : TNS S) (hs6 : s < 530) : ∃ S', fX0_finish [vR (s + 56), vR (s + 3), vR (s + 1)] S = some (some (vI (mRun A (RA A)).2), S') ∧ SceneIs S' s (mRun A (RA A)).1 ∧ (∀ a, a < s ∨ s + 64 ≤ a → S' a = S a) := by
  obtain ⟨k0, ht, hv, hd, hc⟩ := hs
  obtain ⟨h1, h2, h3, h4, h5, h6, h7, h8⟩ := id h
  have hp := pot_b h7
  obtain ⟨T, e1, e2, e3⟩ := s_finish hc hv (by omega) ht (by omega) (by omega) h2 h1 h3 hT h6 h7 h8
  obtain ⟨⟨g1, g2, g3, g4⟩, g5⟩ := runF_inv h3.rb 1000 A h2 h7 h8 (by omega)
  exact ⟨T, e1, h.run (fun a q1 q2 => e3 a (by omega)) (fun k hk => g5 k (by omega)) e2 g1 g2, fun a ha => e3 a (by omega)⟩
end SCN
