/-! the run: leap, run, slip, figures -/
section STP
variable {S : MM} {c v t : Nat} {A : Nat → Int} {R : Nat → Nat → Int}
theorem mLeapW_k {r : Nat → Int} {w k : Nat} (hw : w < 3) (h : k < 4 ∨ k = 4 ∨ k = 5 ∨ k = 7 ∨ (23 ≤ k)) : mLeapW A r w k = A k := by
  unfold mLeapW
  rw [if_neg (by omega), if_neg (by omega), if_neg (by omega), if_neg (by omega), if_neg (by omega)]
theorem mLeapW_M {r : Nat → Int} {w : Nat} (hw : w < 3) : MetA (mLeapW A r w) = MetA A := by
  funext k
  exact mLeapW_k hw (by omega)
theorem mLeapW_20 {r : Nat → Int} {w u : Nat} (hw : w < 3) (hu : u < 3) : mLeapW A r w (20 + u) = if u = w then (fst r (A 5).toNat : Int) else A (20 + u) := by
  unfold mLeapW
  rw [if_neg (by omega), if_neg (by omega), if_neg (by omega), if_neg (by omega)]
  by_cases q : u = w
  · rw [if_pos (by omega), if_pos q]
  · rw [if_neg (by omega), if_neg q]
theorem mLeapW_8 {r : Nat → Int} {w u : Nat} (hw : w < 3) (hu : u < 3) : mLeapW A r w (8 + u) = if u = w then A (8 + u) + 1 else A (8 + u) := by
  unfold mLeapW
  rw [if_neg (by omega)]
  by_cases q : u = w
  · rw [if_pos (by omega), if_pos q]
  · rw [if_neg (by omega), if_neg (by omega), if_neg (by omega), if_neg (by omega), if_neg q]
theorem mLeapW_11 {r : Nat → Int} {w u : Nat} (hw : w < 3) (hu : u < 3) : mLeapW A r w (11 + u) = if u = w then A (11 + u) + lks (A 2) (cnt r (A (20 + w)).toNat) (cnt r 300) (cnt r (A 5).toNat) else A (11 + u) := by
  unfold mLeapW
  rw [if_neg (by omega), if_neg (by omega)]
  by_cases q : u = w
  · rw [if_pos (by omega), if_pos q]
  · rw [if_neg (by omega), if_neg (by omega), if_neg (by omega), if_neg q]
theorem mLeapW_14 {r : Nat → Int} {w u : Nat} (hw : w < 3) (hu : u < 3) : mLeapW A r w (14 + u) = A (14 + u) := by
  unfold mLeapW
  rw [if_neg (by omega), if_neg (by omega), if_neg (by omega), if_neg (by omega), if_neg (by omega)]
theorem mLeapW_17 {r : Nat → Int} {w u : Nat} (hw : w < 3) (hu : u < 3) : mLeapW A r w (17 + u) = if u = w then (if (fst r (A 5).toNat : Int) < 300 ∧ A (17 + u) < (fst r (A 5).toNat : Int) - A (20 + w) then (fst r (A 5).toNat : Int) - A (20 + w) else A (17 + u)) else A (17 + u) := by
  unfold mLeapW
  rw [if_neg (by omega), if_neg (by omega), if_neg (by omega)]
  by_cases q : u = w
  · rw [if_pos (by omega), if_pos q]
  · rw [if_neg (by omega), if_neg (by omega), if_neg q]
theorem RunR_leapW {w : Nat} (hw : w < 3) (hr : RunR A) (hsh : A (20 + w) < A 5) : RunR (mLeapW A (R w) w) := by
  obtain ⟨g1, g2, g3, g4, g5⟩ := id hr
  have hf := fst_spec (R w) (k := (A 5).toNat) (by omega)
  have hl := lks_b (A 2) (cnt (R w) (A (20 + w)).toNat) (cnt (R w) 300) (cnt (R w) (A 5).toNat)
  unfold RunR
  rw [mLeapW_M hw, mLeapW_k hw (by omega)]
  refine ⟨g1, bhd_b _ _ _, g3, g4, fun u hu => ?_⟩
  have h5 := g5 u hu
  have h5w := g5 w hw
  rw [mLeapW_20 hw hu, mLeapW_8 hw hu, mLeapW_11 hw hu, mLeapW_14 hw hu, mLeapW_17 hw hu]
  by_cases q : u = w
  · subst q
    rw [if_pos rfl, if_pos rfl, if_pos rfl, if_pos rfl]
    refine ⟨by omega, by omega, by omega, ?_⟩
    split <;> omega
  · rw [if_neg q, if_neg q, if_neg q, if_neg q]
    exact h5
theorem onS_leapW {w : Nat} (hw : w < 3) (hr : RunR A) (hon : onS A R) : onS (mLeapW A (R w) w) R := by
  have hf := fst_spec (R w) (k := (A 5).toNat) (by have := hr.1; omega)
  intro u hu
  rw [mLeapW_20 hw hu]
  by_cases q : u = w
  · subst q
    rw [if_pos rfl, Int.toNat_natCast]
    intro z
    exact hf.2.2.2 (by omega)
  · rw [if_neg q]
    exact hon u hu
theorem RunS.on (h : RunS A R) (hr : RunR A) (h4 : A 4 ≠ 0) : onS A R := by
  intro w hw hl
  by_cases q : A 4 = 1
  · exact ((h.2.1 q).1 w hw).2.2
  · rcases h.2.2 (by have := h.1; omega) w hw with z | z
    · omega
    · exact z
theorem s_step (hc : crs c) (hv : riv v) (hcv : c + 7 < v ∨ v + 9 < c) (ht : stg t) (hct : c + 7 < t ∨ t + 1 < c) (hA : StgR A) (hS : StgIs S t A) (hR : RiverIs S v R) (hT : TNS S) (hc6 : c < 590) (h : CrossIs S c A) (hr : RunR A) (hs : RunS A R) (h4 : A 4 = 1) :
    ∃ S', fX0_step [vR c, vR v, vR t] S = some (some (vI (nxtW A)), S') ∧ CrossIs S' c (mLeap A R) ∧ (∀ a, a < c ∨ c + 8 ≤ a → S' a = S a) := by
  obtain ⟨⟨k0, k1, k2, k3, k4, k5, k6, k7⟩, a1, a2, a3, a4, a5, a6, a7⟩ := id hc
  obtain ⟨q0, q1, q2⟩ := id ht
  obtain ⟨r0, -⟩ := id hv
  obtain ⟨z0, z1, z2, z3⟩ := id hA
  obtain ⟨g1, g2, g3, g4, g5⟩ := id hr
  have hnb := nxtW_b A
  have hsh := nxtW_short hA hs h4
  have hnext := s_nextToLeap hc h hr hA hs h4 hT
  have hon := hs.on hr (by omega)
  unfold mLeap
  obtain ⟨w, hw⟩ : ∃ w : Nat, nxtW A = (w : Int) := ⟨(nxtW A).toNat, by omega⟩
  rw [hw] at hnb hsh hnext ⊢
  rw [Int.toNat_natCast] at hsh ⊢
  have hw3 : w < 3 := by omega
  have h5w := g5 w hw3
  have hp := riv_pw (w := (w : Int)) hv (by omega)
  have hpw : pw v (w : Int) = v + 1 + 3 * w := by unfold pw; rw [Int.toNat_natCast]
  have hPath : ∀ U : MM, (∀ a, v < a → a < v + 10 → U a = S a) → PathIs U (pw v (w : Int)) (R w) := fun U hU => by
    have := (hR.rows (S' := U) hU).pw (w := (w : Int)) (by omega)
    rw [Int.toNat_natCast] at this
    exact this
  have hfs := fst_spec (R w) (k := (A 5).toNat) (by omega)
  have ew := s_isWalker (S := S) (w := (w : Int)) ⟨by omega, by omega⟩
  rw [if_pos (by omega)] at ew
  have epath : ∀ U : MM, fX5_pathOf [vR v, vI (w : Int)] U = some (some (vR (pw v (w : Int))), U) := fun U => s_pathOf hv.1 (by omega)
  have t0 : S (c + 3) w = A (20 + w) := h.2.2.2.2.1 w hw3
  have t1 : S (c + 4) w = A (8 + w) := h.2.2.2.2.2.1 w hw3
  have t2 : S (c + 5) w = A (11 + w) := h.2.2.2.2.2.2.1 w hw3
  have t4 : S (c + 7) w = A (17 + w) := h.2.2.2.2.2.2.2.2 w hw3
  have tg : S c 2 = A 5 := h.2.1
  have e1 : ∀ U : MM, (∀ a, v < a → a < v + 10 → U a = S a) → fX3_firstKeyFrom [vR (pw v (w : Int)), vI (A 5)] U = some (some (vI (fst (R w) (A 5).toNat)), U) := fun U hU => s_firstKeyFrom hp (hPath U hU) g1
  have e2 : ∀ U : MM, (∀ a, v < a → a < v + 10 → U a = S a) → fX3_placeFrom [vR (pw v (w : Int)), vI (A (20 + w))] U = some (some (vI (cnt (R w) (A (20 + w)).toNat)), U) := fun U hU => s_placeFrom hp (hPath U hU) (by omega)
  have hcl := cnt_mono (R w) (show (A (20 + w)).toNat ≤ 300 by omega)
  have e3 : ∀ U : MM, (∀ a, v < a → a < v + 10 → U a = S a) → fX3_looksFor [vR (pw v (w : Int)), vI (A 2), vI (cnt (R w) (A (20 + w)).toNat), vI (A 5)] U = some (some (vI (lks (A 2) (cnt (R w) (A (20 + w)).toNat) (cnt (R w) 300) (cnt (R w) (A 5).toNat))), U) := fun U hU => s_looksFor hp (hPath U hU) g1 ⟨by omega, by have := (hPath U hU).2.1; omega⟩ z2
  have hlk := lks_b (A 2) (cnt (R w) (A (20 + w)).toNat) (cnt (R w) 300) (cnt (R w) (A 5).toNat)
  have hv3 : fX7_valueOf [vR t, vI 3] S = some (some (vI (A 3)), S) := by rw [s_valueOf ht (by omega), tn3, hS 3 (by omega)]
  have hv2 : ∀ U : MM, U (t + 1) = S (t + 1) → fX7_valueOf [vR t, vI 2] U = some (some (vI (A 2)), U) := fun U hU => by rw [s_valueOf ht (by omega), hU, tn2, hS 2 (by omega)]
  have hv1 : ∀ U : MM, U (t + 1) = S (t + 1) → fX7_valueOf [vR t, vI 1] U = some (some (vI (A 1)), U) := fun U hU => by rw [s_valueOf ht (by omega), hU, tn1, hS 1 (by omega)]
  have hb : ∀ U : MM, U 604 = S 604 → U 602 = S 602 → fX8_walkerBehind [vI (A 3), vI (w : Int), vI 1] U = some (some (vI (bhd (A 3) w 1)), U) := fun U h4 h2 => s_walkerBehind (hT.rows h4 h2) z3 ⟨by omega, by omega⟩ (by omega)
  -- memory on the way
  generalize hlo : lks (A 2) (cnt (R w) (A (20 + w)).toNat) (cnt (R w) 300) (cnt (R w) (A 5).toNat) = lo at e3 hlk
  obtain ⟨T1, hT1⟩ : ∃ T : MM, T = updM S (c + 4) w (A (8 + w) + 1) := ⟨_, rfl⟩
  obtain ⟨T2, hT2⟩ : ∃ T : MM, T = updM T1 (c + 5) w (A (11 + w) + lo) := ⟨_, rfl⟩
  have n1 : ∀ a, a ≠ c + 4 → T1 a = S a := fun a ha => by rw [hT1, updM_ne ha]
  have n2 : ∀ a, a ≠ c + 4 → a ≠ c + 5 → T2 a = S a := fun a h1 h2 => by rw [hT2, updM_ne h2, n1 a h1]
  have m1 : T1 c 2 = A 5 := by rw [n1 c (by omega)]; exact tg
  have m2 : T1 (c + 5) w = A (11 + w) := by rw [n1 _ (by omega)]; exact t2
  obtain ⟨T3, hT3⟩ : ∃ T : MM, T = (if (fst (R w) (A 5).toNat : Int) = 300 then T2 else updM T2 (c + 7) w (if A (17 + w) < (fst (R w) (A 5).toNat : Int) - A (20 + w) then (fst (R w) (A 5).toNat : Int) - A (20 + w) else A (17 + w))) := ⟨_, rfl⟩
  have n3 : ∀ a, a ≠ c + 4 → a ≠ c + 5 → a ≠ c + 7 → T3 a = S a := fun a h1 h2 h3 => by
    rw [hT3]
    split
    · exact n2 a h1 h2
    · rw [updM_ne h3]; exact n2 a h1 h2
  obtain ⟨T5, hT5⟩ : ∃ T : MM, T = updM (updM T3 (c + 3) w (fst (R w) (A 5).toNat)) c 3 (bhd (A 3) w 1) := ⟨_, rfl⟩
  have n4 : ∀ a, a ≠ c + 3 → a ≠ c + 4 → a ≠ c + 5 → a ≠ c + 7 → updM T3 (c + 3) w (fst (R w) (A 5).toNat) a = S a := fun a h0 h1 h2 h3 => by rw [updM_ne h0, n3 a h1 h2 h3]
  have n5 : ∀ a, a ≠ c → a ≠ c + 3 → a ≠ c + 4 → a ≠ c + 5 → a ≠ c + 7 → T5 a = S a := fun a h9 h0 h1 h2 h3 => by rw [hT5, updM_ne h9, n4 a h0 h1 h2 h3]
  have hC : CrossIs T5 c (mLeapW A (R w) w) := by
    obtain ⟨y1, y2, y3, ym, s1, s2, s3, s4, s5⟩ := h
    have tc : T5 c = up (S c) 3 (bhd (A 3) w 1) := by rw [hT5, updM_eq, n4 c (by omega) (by omega) (by omega) (by omega)]
    have tr4 : T3 (c + 4) = up (S (c + 4)) w (A (8 + w) + 1) := by
      rw [hT3]
      split
      · rw [hT2, updM_ne (by omega), hT1, updM_eq]
      · rw [updM_ne (by omega), hT2, updM_ne (by omega), hT1, updM_eq]
    have tr5 : T3 (c + 5) = up (S (c + 5)) w (A (11 + w) + lo) := by
      rw [hT3]
      split
      · rw [hT2, updM_eq, n1 _ (by omega)]
      · rw [updM_ne (by omega), hT2, updM_eq, n1 _ (by omega)]
    unfold CrossIs flg mtg tri
    rw [mLeapW_M hw3, tc, n5 (c + 1) (by omega) (by omega) (by omega) (by omega) (by omega), n5 (c + 2) (by omega) (by omega) (by omega) (by omega) (by omega), n5 (c + 6) (by omega) (by omega) (by omega) (by omega) (by omega)]
    refine ⟨by rw [mLeapW_k hw3 (by omega), up_ne (by omega), up_ne (by omega)]; exact y1, by rw [mLeapW_k hw3 (by omega), up_ne (by omega)]; exact y2, by rw [up_eq]; rfl, ⟨by rw [up_ne (by omega)]; exact ym.1, ym.2.1, ym.2.2⟩, fun u hu => ?_, fun u hu => ?_, fun u hu => ?_, fun u hu => ?_, fun u hu => ?_⟩
    · rw [mLeapW_20 hw3 hu, hT5, updM_ne (by omega), updM_eq]
      by_cases q : u = w
      · rw [if_pos q, q, up_eq]
      · rw [if_neg q, up_ne q, n3 _ (by omega) (by omega) (by omega)]
        exact s1 u hu
    · rw [mLeapW_8 hw3 hu, hT5, updM_ne (by omega), updM_ne (by omega), tr4]
      by_cases q : u = w
      · rw [if_pos q, q, up_eq]
      · rw [if_neg q, up_ne q]
        exact s2 u hu
    · rw [mLeapW_11 hw3 hu, hT5, updM_ne (by omega), updM_ne (by omega), tr5]
      by_cases q : u = w
      · rw [if_pos q, q, up_eq, hlo]
      · rw [if_neg q, up_ne q]
        exact s3 u hu
    · rw [mLeapW_14 hw3 hu]
      exact s4 u hu
    · rw [mLeapW_17 hw3 hu, hT5, updM_ne (by omega), updM_ne (by omega), hT3]
      by_cases q3 : (fst (R w) (A 5).toNat : Int) = 300
      · rw [if_pos q3, n2 _ (by omega) (by omega)]
        by_cases q : u = w
        · rw [if_pos q, if_neg (by omega)]
          exact s5 u hu
        · rw [if_neg q]
          exact s5 u hu
      · rw [if_neg q3, updM_eq]
        by_cases q : u = w
        · subst q
          rw [if_pos rfl, up_eq]
          by_cases q4 : A (17 + u) < (fst (R u) (A 5).toNat : Int) - A (20 + u)
          · rw [if_pos q4, if_pos ⟨by omega, q4⟩]
          · rw [if_neg q4, if_neg (fun y => q4 y.2)]
        · rw [if_neg q, up_ne q, n2 _ (by omega) (by omega)]
          exact s5 u hu
  have h1 : (mLeapW A (R w) w) 1 = A 1 := mLeapW_k hw3 (by omega)
  obtain ⟨S', w1, w2, w3⟩ := s_lookRound (S := T5) hc hv hcv hC (RunR_leapW hw3 hr hsh) (hR.rows (fun a y1 y2 => n5 a (by omega) (by omega) (by omega) (by omega) (by omega))) (by rw [h1]; exact z1) (fun _ => onS_leapW hw3 hr hon)
  rw [h1] at w1
  refine ⟨S', ?_, w2, fun a ha => by rw [w3 a ha, n5 a (by omega) (by omega) (by omega) (by omega) (by omega)]⟩
  obtain ⟨p0, -⟩ := id hp
  have hmx := s_max (S := T2) (a := A (17 + w)) (b := (fst (R w) (A 5).toNat : Int) - A (20 + w)) ⟨by omega, by omega⟩ ⟨by omega, by omega⟩
  have m4 : T2 (c + 7) w = A (17 + w) := by rw [n2 _ (by omega) (by omega)]; exact t4
  have hb3 := hb _ (n4 604 (by omega) (by omega) (by omega) (by omega)) (n4 602 (by omega) (by omega) (by omega) (by omega))
  have hv5 := hv1 T5 (n5 _ (by omega) (by omega) (by omega) (by omega) (by omega))
  rw [uX0_step]
  by_cases q3 : (fst (R w) (A 5).toNat : Int) = 300
  · rw [if_pos q3] at hT3
    simp (disch := omega) only [eX0_step_0, eX0_step_1, eX0_step_2, eX0_step_5, eX0_step_6, eX0_step_7, eX0_step_8, eX0_step_11, eX0_step_13, eX0_step_15, eX0_step_18, eX0_step_21, eX0_step_23, eX0_step_24, eX0_step_25, eX0_step_27, eX0_step_30, eX0_step_32, eX0_step_33, eX0_step_36, eX0_step_38, eX0_step_38x, eX0_step_38y, eX0_step_39, eX0_step_41, eX0_step_43, eX0_step_44, eX0_step_47, eX0_step_50, eX0_step_52, eX0_step_53, eX0_step_56, eX0_step_58, eX0_step_59, eX0_step_59x, eX0_step_59y, eX0_step_60, eX0_step_61, eX0_step_62, eX0_step_63, eX0_step_64, eX0_step_67, eX0_step_69, eX0_step_70, eX0_step_70x, eX0_step_70y, eX0_step_71, eX0_step_73, eX0_step_74, eX0_step_75, eX0_step_78, eX0_step_80, eX0_step_82, eX0_step_85, eX0_step_86, eX0_step_89, eX0_step_92, eX0_step_93, eX0_step_94, eX0_step_96, eX0_step_99, eX0_step_102, eX0_step_103, eX0_step_106, eX0_step_108, eX0_step_109, eX0_step_112, eX0_step_114, eX0_step_114x, eX0_step_114y, eX0_step_115, eX0_step_117, eX0_step_119, eX0_step_120, eX0_step_123, eX0_step_124, eX0_step_125, eX0_step_128, eX0_step_130, eX0_step_132, eX0_step_133, eX0_step_134, eX0_step_135, eX0_step_137, eX0_step_138, eX0_step_141, eX0_step_144, eX0_step_145, eX0_step_146, eX0_step_147, eX0_step_148, eX0_step_151, eX0_step_154, eX0_step_156, if_pos, if_neg, if_true, if_false, Option.bind_some, Option.toList_some, Option.toList_none, List.cons_append, List.nil_append, hv3, hnext, ew, epath, Int.toNat_natCast, t0, tg, e1 S (fun _ _ _ => rfl), t1]
    rw [← hT1]
    simp (disch := omega) only [eX0_step_0, eX0_step_1, eX0_step_2, eX0_step_5, eX0_step_6, eX0_step_7, eX0_step_8, eX0_step_11, eX0_step_13, eX0_step_15, eX0_step_18, eX0_step_21, eX0_step_23, eX0_step_24, eX0_step_25, eX0_step_27, eX0_step_30, eX0_step_32, eX0_step_33, eX0_step_36, eX0_step_38, eX0_step_38x, eX0_step_38y, eX0_step_39, eX0_step_41, eX0_step_43, eX0_step_44, eX0_step_47, eX0_step_50, eX0_step_52, eX0_step_53, eX0_step_56, eX0_step_58, eX0_step_59, eX0_step_59x, eX0_step_59y, eX0_step_60, eX0_step_61, eX0_step_62, eX0_step_63, eX0_step_64, eX0_step_67, eX0_step_69, eX0_step_70, eX0_step_70x, eX0_step_70y, eX0_step_71, eX0_step_73, eX0_step_74, eX0_step_75, eX0_step_78, eX0_step_80, eX0_step_82, eX0_step_85, eX0_step_86, eX0_step_89, eX0_step_92, eX0_step_93, eX0_step_94, eX0_step_96, eX0_step_99, eX0_step_102, eX0_step_103, eX0_step_106, eX0_step_108, eX0_step_109, eX0_step_112, eX0_step_114, eX0_step_114x, eX0_step_114y, eX0_step_115, eX0_step_117, eX0_step_119, eX0_step_120, eX0_step_123, eX0_step_124, eX0_step_125, eX0_step_128, eX0_step_130, eX0_step_132, eX0_step_133, eX0_step_134, eX0_step_135, eX0_step_137, eX0_step_138, eX0_step_141, eX0_step_144, eX0_step_145, eX0_step_146, eX0_step_147, eX0_step_148, eX0_step_151, eX0_step_154, eX0_step_156, if_pos, if_neg, if_true, if_false, Option.bind_some, Option.toList_some, Option.toList_none, List.cons_append, List.nil_append, Int.toNat_natCast, m2, hv2 T1 (n1 _ (by omega)), e2 T1 (fun a y1 y2 => n1 a (by omega)), m1, e3 T1 (fun a y1 y2 => n1 a (by omega))]
    rw [← hT2, ← hT3]
    simp (disch := omega) only [eX0_step_0, eX0_step_1, eX0_step_2, eX0_step_5, eX0_step_6, eX0_step_7, eX0_step_8, eX0_step_11, eX0_step_13, eX0_step_15, eX0_step_18, eX0_step_21, eX0_step_23, eX0_step_24, eX0_step_25, eX0_step_27, eX0_step_30, eX0_step_32, eX0_step_33, eX0_step_36, eX0_step_38, eX0_step_38x, eX0_step_38y, eX0_step_39, eX0_step_41, eX0_step_43, eX0_step_44, eX0_step_47, eX0_step_50, eX0_step_52, eX0_step_53, eX0_step_56, eX0_step_58, eX0_step_59, eX0_step_59x, eX0_step_59y, eX0_step_60, eX0_step_61, eX0_step_62, eX0_step_63, eX0_step_64, eX0_step_67, eX0_step_69, eX0_step_70, eX0_step_70x, eX0_step_70y, eX0_step_71, eX0_step_73, eX0_step_74, eX0_step_75, eX0_step_78, eX0_step_80, eX0_step_82, eX0_step_85, eX0_step_86, eX0_step_89, eX0_step_92, eX0_step_93, eX0_step_94, eX0_step_96, eX0_step_99, eX0_step_102, eX0_step_103, eX0_step_106, eX0_step_108, eX0_step_109, eX0_step_112, eX0_step_114, eX0_step_114x, eX0_step_114y, eX0_step_115, eX0_step_117, eX0_step_119, eX0_step_120, eX0_step_123, eX0_step_124, eX0_step_125, eX0_step_128, eX0_step_130, eX0_step_132, eX0_step_133, eX0_step_134, eX0_step_135, eX0_step_137, eX0_step_138, eX0_step_141, eX0_step_144, eX0_step_145, eX0_step_146, eX0_step_147, eX0_step_148, eX0_step_151, eX0_step_154, eX0_step_156, if_pos, if_neg, if_true, if_false, Option.bind_some, Option.toList_some, Option.toList_none, List.cons_append, List.nil_append, Int.toNat_natCast, hb3]
    rw [← hT5]
    simp (disch := omega) only [eX0_step_0, eX0_step_1, eX0_step_2, eX0_step_5, eX0_step_6, eX0_step_7, eX0_step_8, eX0_step_11, eX0_step_13, eX0_step_15, eX0_step_18, eX0_step_21, eX0_step_23, eX0_step_24, eX0_step_25, eX0_step_27, eX0_step_30, eX0_step_32, eX0_step_33, eX0_step_36, eX0_step_38, eX0_step_38x, eX0_step_38y, eX0_step_39, eX0_step_41, eX0_step_43, eX0_step_44, eX0_step_47, eX0_step_50, eX0_step_52, eX0_step_53, eX0_step_56, eX0_step_58, eX0_step_59, eX0_step_59x, eX0_step_59y, eX0_step_60, eX0_step_61, eX0_step_62, eX0_step_63, eX0_step_64, eX0_step_67, eX0_step_69, eX0_step_70, eX0_step_70x, eX0_step_70y, eX0_step_71, eX0_step_73, eX0_step_74, eX0_step_75, eX0_step_78, eX0_step_80, eX0_step_82, eX0_step_85, eX0_step_86, eX0_step_89, eX0_step_92, eX0_step_93, eX0_step_94, eX0_step_96, eX0_step_99, eX0_step_102, eX0_step_103, eX0_step_106, eX0_step_108, eX0_step_109, eX0_step_112, eX0_step_114, eX0_step_114x, eX0_step_114y, eX0_step_115, eX0_step_117, eX0_step_119, eX0_step_120, eX0_step_123, eX0_step_124, eX0_step_125, eX0_step_128, eX0_step_130, eX0_step_132, eX0_step_133, eX0_step_134, eX0_step_135, eX0_step_137, eX0_step_138, eX0_step_141, eX0_step_144, eX0_step_145, eX0_step_146, eX0_step_147, eX0_step_148, eX0_step_151, eX0_step_154, eX0_step_156, if_pos, if_neg, if_true, if_false, Option.bind_some, Option.toList_some, Option.toList_none, List.cons_append, List.nil_append, hv5, w1]
  · rw [if_neg q3] at hT3
    simp (disch := omega) only [eX0_step_0, eX0_step_1, eX0_step_2, eX0_step_5, eX0_step_6, eX0_step_7, eX0_step_8, eX0_step_11, eX0_step_13, eX0_step_15, eX0_step_18, eX0_step_21, eX0_step_23, eX0_step_24, eX0_step_25, eX0_step_27, eX0_step_30, eX0_step_32, eX0_step_33, eX0_step_36, eX0_step_38, eX0_step_38x, eX0_step_38y, eX0_step_39, eX0_step_41, eX0_step_43, eX0_step_44, eX0_step_47, eX0_step_50, eX0_step_52, eX0_step_53, eX0_step_56, eX0_step_58, eX0_step_59, eX0_step_59x, eX0_step_59y, eX0_step_60, eX0_step_61, eX0_step_62, eX0_step_63, eX0_step_64, eX0_step_67, eX0_step_69, eX0_step_70, eX0_step_70x, eX0_step_70y, eX0_step_71, eX0_step_73, eX0_step_74, eX0_step_75, eX0_step_78, eX0_step_80, eX0_step_82, eX0_step_85, eX0_step_86, eX0_step_89, eX0_step_92, eX0_step_93, eX0_step_94, eX0_step_96, eX0_step_99, eX0_step_102, eX0_step_103, eX0_step_106, eX0_step_108, eX0_step_109, eX0_step_112, eX0_step_114, eX0_step_114x, eX0_step_114y, eX0_step_115, eX0_step_117, eX0_step_119, eX0_step_120, eX0_step_123, eX0_step_124, eX0_step_125, eX0_step_128, eX0_step_130, eX0_step_132, eX0_step_133, eX0_step_134, eX0_step_135, eX0_step_137, eX0_step_138, eX0_step_141, eX0_step_144, eX0_step_145, eX0_step_146, eX0_step_147, eX0_step_148, eX0_step_151, eX0_step_154, eX0_step_156, if_pos, if_neg, if_true, if_false, Option.bind_some, Option.toList_some, Option.toList_none, List.cons_append, List.nil_append, hv3, hnext, ew, epath, Int.toNat_natCast, t0, tg, e1 S (fun _ _ _ => rfl), t1]
    rw [← hT1]
    simp (disch := omega) only [eX0_step_0, eX0_step_1, eX0_step_2, eX0_step_5, eX0_step_6, eX0_step_7, eX0_step_8, eX0_step_11, eX0_step_13, eX0_step_15, eX0_step_18, eX0_step_21, eX0_step_23, eX0_step_24, eX0_step_25, eX0_step_27, eX0_step_30, eX0_step_32, eX0_step_33, eX0_step_36, eX0_step_38, eX0_step_38x, eX0_step_38y, eX0_step_39, eX0_step_41, eX0_step_43, eX0_step_44, eX0_step_47, eX0_step_50, eX0_step_52, eX0_step_53, eX0_step_56, eX0_step_58, eX0_step_59, eX0_step_59x, eX0_step_59y, eX0_step_60, eX0_step_61, eX0_step_62, eX0_step_63, eX0_step_64, eX0_step_67, eX0_step_69, eX0_step_70, eX0_step_70x, eX0_step_70y, eX0_step_71, eX0_step_73, eX0_step_74, eX0_step_75, eX0_step_78, eX0_step_80, eX0_step_82, eX0_step_85, eX0_step_86, eX0_step_89, eX0_step_92, eX0_step_93, eX0_step_94, eX0_step_96, eX0_step_99, eX0_step_102, eX0_step_103, eX0_step_106, eX0_step_108, eX0_step_109, eX0_step_112, eX0_step_114, eX0_step_114x, eX0_step_114y, eX0_step_115, eX0_step_117, eX0_step_119, eX0_step_120, eX0_step_123, eX0_step_124, eX0_step_125, eX0_step_128, eX0_step_130, eX0_step_132, eX0_step_133, eX0_step_134, eX0_step_135, eX0_step_137, eX0_step_138, eX0_step_141, eX0_step_144, eX0_step_145, eX0_step_146, eX0_step_147, eX0_step_148, eX0_step_151, eX0_step_154, eX0_step_156, if_pos, if_neg, if_true, if_false, Option.bind_some, Option.toList_some, Option.toList_none, List.cons_append, List.nil_append, Int.toNat_natCast, m2, hv2 T1 (n1 _ (by omega)), e2 T1 (fun a y1 y2 => n1 a (by omega)), m1, e3 T1 (fun a y1 y2 => n1 a (by omega))]
    rw [← hT2, m4, hmx]
    simp (disch := omega) only [eX0_step_0, eX0_step_1, eX0_step_2, eX0_step_5, eX0_step_6, eX0_step_7, eX0_step_8, eX0_step_11, eX0_step_13, eX0_step_15, eX0_step_18, eX0_step_21, eX0_step_23, eX0_step_24, eX0_step_25, eX0_step_27, eX0_step_30, eX0_step_32, eX0_step_33, eX0_step_36, eX0_step_38, eX0_step_38x, eX0_step_38y, eX0_step_39, eX0_step_41, eX0_step_43, eX0_step_44, eX0_step_47, eX0_step_50, eX0_step_52, eX0_step_53, eX0_step_56, eX0_step_58, eX0_step_59, eX0_step_59x, eX0_step_59y, eX0_step_60, eX0_step_61, eX0_step_62, eX0_step_63, eX0_step_64, eX0_step_67, eX0_step_69, eX0_step_70, eX0_step_70x, eX0_step_70y, eX0_step_71, eX0_step_73, eX0_step_74, eX0_step_75, eX0_step_78, eX0_step_80, eX0_step_82, eX0_step_85, eX0_step_86, eX0_step_89, eX0_step_92, eX0_step_93, eX0_step_94, eX0_step_96, eX0_step_99, eX0_step_102, eX0_step_103, eX0_step_106, eX0_step_108, eX0_step_109, eX0_step_112, eX0_step_114, eX0_step_114x, eX0_step_114y, eX0_step_115, eX0_step_117, eX0_step_119, eX0_step_120, eX0_step_123, eX0_step_124, eX0_step_125, eX0_step_128, eX0_step_130, eX0_step_132, eX0_step_133, eX0_step_134, eX0_step_135, eX0_step_137, eX0_step_138, eX0_step_141, eX0_step_144, eX0_step_145, eX0_step_146, eX0_step_147, eX0_step_148, eX0_step_151, eX0_step_154, eX0_step_156, if_pos, if_neg, if_true, if_false, Option.bind_some, Option.toList_some, Option.toList_none, List.cons_append, List.nil_append, Int.toNat_natCast]
    rw [← hT3]
    simp (disch := omega) only [eX0_step_0, eX0_step_1, eX0_step_2, eX0_step_5, eX0_step_6, eX0_step_7, eX0_step_8, eX0_step_11, eX0_step_13, eX0_step_15, eX0_step_18, eX0_step_21, eX0_step_23, eX0_step_24, eX0_step_25, eX0_step_27, eX0_step_30, eX0_step_32, eX0_step_33, eX0_step_36, eX0_step_38, eX0_step_38x, eX0_step_38y, eX0_step_39, eX0_step_41, eX0_step_43, eX0_step_44, eX0_step_47, eX0_step_50, eX0_step_52, eX0_step_53, eX0_step_56, eX0_step_58, eX0_step_59, eX0_step_59x, eX0_step_59y, eX0_step_60, eX0_step_61, eX0_step_62, eX0_step_63, eX0_step_64, eX0_step_67, eX0_step_69, eX0_step_70, eX0_step_70x, eX0_step_70y, eX0_step_71, eX0_step_73, eX0_step_74, eX0_step_75, eX0_step_78, eX0_step_80, eX0_step_82, eX0_step_85, eX0_step_86, eX0_step_89, eX0_step_92, eX0_step_93, eX0_step_94, eX0_step_96, eX0_step_99, eX0_step_102, eX0_step_103, eX0_step_106, eX0_step_108, eX0_step_109, eX0_step_112, eX0_step_114, eX0_step_114x, eX0_step_114y, eX0_step_115, eX0_step_117, eX0_step_119, eX0_step_120, eX0_step_123, eX0_step_124, eX0_step_125, eX0_step_128, eX0_step_130, eX0_step_132, eX0_step_133, eX0_step_134, eX0_step_135, eX0_step_137, eX0_step_138, eX0_step_141, eX0_step_144, eX0_step_145, eX0_step_146, eX0_step_147, eX0_step_148, eX0_step_151, eX0_step_154, eX0_step_156, if_pos, if_neg, if_true, if_false, Option.bind_some, Option.toList_some, Option.toList_none, List.cons_append, List.nil_append, Int.toNat_natCast, hb3]
    rw [← hT5]
    simp (disch := omega) only [eX0_step_0, eX0_step_1, eX0_step_2, eX0_step_5, eX0_step_6, eX0_step_7, eX0_step_8, eX0_step_11, eX0_step_13, eX0_step_15, eX0_step_18, eX0_step_21, eX0_step_23, eX0_step_24, eX0_step_25, eX0_step_27, eX0_step_30, eX0_step_32, eX0_step_33, eX0_step_36, eX0_step_38, eX0_step_38x, eX0_step_38y, eX0_step_39, eX0_step_41, eX0_step_43, eX0_step_44, eX0_step_47, eX0_step_50, eX0_step_52, eX0_step_53, eX0_step_56, eX0_step_58, eX0_step_59, eX0_step_59x, eX0_step_59y, eX0_step_60, eX0_step_61, eX0_step_62, eX0_step_63, eX0_step_64, eX0_step_67, eX0_step_69, eX0_step_70, eX0_step_70x, eX0_step_70y, eX0_step_71, eX0_step_73, eX0_step_74, eX0_step_75, eX0_step_78, eX0_step_80, eX0_step_82, eX0_step_85, eX0_step_86, eX0_step_89, eX0_step_92, eX0_step_93, eX0_step_94, eX0_step_96, eX0_step_99, eX0_step_102, eX0_step_103, eX0_step_106, eX0_step_108, eX0_step_109, eX0_step_112, eX0_step_114, eX0_step_114x, eX0_step_114y, eX0_step_115, eX0_step_117, eX0_step_119, eX0_step_120, eX0_step_123, eX0_step_124, eX0_step_125, eX0_step_128, eX0_step_130, eX0_step_132, eX0_step_133, eX0_step_134, eX0_step_135, eX0_step_137, eX0_step_138, eX0_step_141, eX0_step_144, eX0_step_145, eX0_step_146, eX0_step_147, eX0_step_148, eX0_step_151, eX0_step_154, eX0_step_156, if_pos, if_neg, if_true, if_false, Option.bind_some, Option.toList_some, Option.toList_none, List.cons_append, List.nil_append, hv5, w1]
end STP
