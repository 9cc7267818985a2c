/-! drying -/
section DR
variable {S : MM} {s : Nat} {A : Nat → Int}
def tk (A : Nat → Int) : Nat → Nat → Int := TA A ((A 7).toNat - 1)
def room (A : Nat → Int) (u : Nat) : Prop := cnt (RA A u) 300 + cnt (adds (RA A u) (tk A u)) 300 ≤ 40
def errDry (A : Nat → Int) : Int := if A 7 = 0 then -5 else if cnt (RA A 0) 300 + cnt (adds (RA A 0) (tk A 0)) 300 ≤ 40 ∧ cnt (RA A 1) 300 + cnt (adds (RA A 1) (tk A 1)) 300 ≤ 40 ∧ cnt (RA A 2) 300 + cnt (adds (RA A 2) (tk A 2)) 300 ≤ 40 then 0 else -4
def mDry (A : Nat → Int) : Nat → Int := fun k => if k = 7 then A 7 - 1 else if 25 ≤ k ∧ k < 925 then mrg (RA A ((k - 25) / 300)) (tk A ((k - 25) / 300)) ((k - 25) % 300) else A k
theorem latest (hs : scnF s) (hF : FloodsIs S (s + 13) (A 7).toNat (TA A)) (h5 : 0 ≤ A 7 ∧ A 7 ≤ 4) (hm : A 7 ≠ 0) : ∃ q : Nat, fX1_latest [vR (s + 13)] S = some (some (vR (s + 16 + 10 * q)), S) ∧ q < 4 ∧ riv (s + 16 + 10 * q) ∧ RiverIs S (s + 16 + 10 * q) (tk A) := by
  obtain ⟨k0, ht, hv, hd, hc⟩ := id hs
  have e := s_floodsLatest hd hF
  rw [if_neg (by omega)] at e
  have hq : ((S (s + 13 + 2) 1).toNat + 4 - (A 7).toNat + ((A 7).toNat - 1)) % 4 < 4 := Nat.mod_lt _ (by omega)
  exact ⟨_, e, hq, hd.2.2.2.2 _ hq, hF.2.2.2.2.2 _ (by omega)⟩
theorem s_errorOfDrying (hs : scnF s) (h : SceneIs S s A) : fX6_errorOfDrying [vR s] S = some (some (vI (errDry A)), S) := by
  obtain ⟨k0, ht, hv, hd, hc⟩ := id hs
  obtain ⟨d0, -⟩ := id hd
  obtain ⟨v0, -⟩ := id hv
  obtain ⟨h1, h2, h3, hF, h5, -⟩ := id h
  rw [uX6_errorOfDrying]
  by_cases c : A 7 = 0
  · have e := s_floodsLatest hd hF
    rw [if_pos (by omega)] at e
    unfold errDry
    rw [if_pos c]
    simp (disch := omega) only [eX6_errorOfDrying_0, eX6_errorOfDrying_1, eX6_errorOfDrying_4, eX6_errorOfDrying_7, eX6_errorOfDrying_8, eX6_errorOfDrying_9n, eX6_errorOfDrying_9r, eX6_errorOfDrying_12, eX6_errorOfDrying_14, eX6_errorOfDrying_15, eX6_errorOfDrying_16, eX6_errorOfDrying_18, eX6_errorOfDrying_19, eX6_errorOfDrying_22, eX6_errorOfDrying_23, eX6_errorOfDrying_26, eX6_errorOfDrying_27, eX6_errorOfDrying_30, eX6_errorOfDrying_31, eX6_errorOfDrying_32, eX6_errorOfDrying_35, eX6_errorOfDrying_38, eX6_errorOfDrying_41, eX6_errorOfDrying_43, eX6_errorOfDrying_44, eX6_errorOfDrying_47, eX6_errorOfDrying_50, eX6_errorOfDrying_51, if_pos, if_neg, if_true, if_false, Option.bind_some, Option.toList_some, Option.toList_none, List.cons_append, List.nil_append, e]
  · obtain ⟨q, e, hq, hr, hR⟩ := latest hs hF h5 c
    obtain ⟨r0, -⟩ := id hr
    have step : ∀ u : Nat, u < 3 → rn xX6_errorOfDrying (17, [some (vR s), some (vR (s + 16 + 10 * q)), some (vI u)], [], S) = if cnt (RA A u) 300 + cnt (adds (RA A u) (tk A u)) 300 ≤ 40 then rn xX6_errorOfDrying (17, [some (vR s), some (vR (s + 16 + 10 * q)), some (vI (u + 1))], [], S) else some (some (vI (-4)), S) := by
      intro u hu
      have e1 := s_pathOf (S := S) (w := (u : Int)) hv.1 (by omega)
      have e2 := s_pathOf (S := S) (w := (u : Int)) hr.1 (by omega)
      have p1 := hv.1
      have hp := riv_pw (w := (u : Int)) hv (by omega)
      have ho := riv_pw (w := (u : Int)) hr (by omega)
      have hPu := h3.pw (w := (u : Int)) (by omega)
      have hQu := hR.pw (w := (u : Int)) (by omega)
      rw [Int.toNat_natCast] at hPu hQu
      have e3 := s_hasRoomForAll hp ho hPu hQu
      obtain ⟨pk, -⟩ := id hp
      obtain ⟨ok, -⟩ := id ho
      rw [eX6_errorOfDrying_17]
      by_cases z : cnt (RA A u) 300 + cnt (adds (RA A u) (tk A u)) 300 ≤ 40
      · rw [if_pos z] at e3 ⊢
        simp (disch := omega) only [eX6_errorOfDrying_0, eX6_errorOfDrying_1, eX6_errorOfDrying_4, eX6_errorOfDrying_7, eX6_errorOfDrying_8, eX6_errorOfDrying_9n, eX6_errorOfDrying_9r, eX6_errorOfDrying_12, eX6_errorOfDrying_14, eX6_errorOfDrying_15, eX6_errorOfDrying_16, eX6_errorOfDrying_18, eX6_errorOfDrying_19, eX6_errorOfDrying_22, eX6_errorOfDrying_23, eX6_errorOfDrying_26, eX6_errorOfDrying_27, eX6_errorOfDrying_30, eX6_errorOfDrying_31, eX6_errorOfDrying_32, eX6_errorOfDrying_35, eX6_errorOfDrying_38, eX6_errorOfDrying_41, eX6_errorOfDrying_43, eX6_errorOfDrying_44, eX6_errorOfDrying_47, eX6_errorOfDrying_50, eX6_errorOfDrying_51, if_pos, if_neg, if_true, if_false, Option.bind_some, Option.toList_some, Option.toList_none, List.cons_append, List.nil_append, e1, e2, e3]
      · rw [if_neg z] at e3 ⊢
        simp (disch := omega) only [eX6_errorOfDrying_0, eX6_errorOfDrying_1, eX6_errorOfDrying_4, eX6_errorOfDrying_7, eX6_errorOfDrying_8, eX6_errorOfDrying_9n, eX6_errorOfDrying_9r, eX6_errorOfDrying_12, eX6_errorOfDrying_14, eX6_errorOfDrying_15, eX6_errorOfDrying_16, eX6_errorOfDrying_18, eX6_errorOfDrying_19, eX6_errorOfDrying_22, eX6_errorOfDrying_23, eX6_errorOfDrying_26, eX6_errorOfDrying_27, eX6_errorOfDrying_30, eX6_errorOfDrying_31, eX6_errorOfDrying_32, eX6_errorOfDrying_35, eX6_errorOfDrying_38, eX6_errorOfDrying_41, eX6_errorOfDrying_43, eX6_errorOfDrying_44, eX6_errorOfDrying_47, eX6_errorOfDrying_50, eX6_errorOfDrying_51, if_pos, if_neg, if_true, if_false, Option.bind_some, Option.toList_some, Option.toList_none, List.cons_append, List.nil_append, e1, e2, e3]
    simp (disch := omega) only [eX6_errorOfDrying_0, eX6_errorOfDrying_1, eX6_errorOfDrying_4, eX6_errorOfDrying_7, eX6_errorOfDrying_8, eX6_errorOfDrying_9n, eX6_errorOfDrying_9r, eX6_errorOfDrying_12, eX6_errorOfDrying_14, eX6_errorOfDrying_15, eX6_errorOfDrying_16, eX6_errorOfDrying_18, eX6_errorOfDrying_19, eX6_errorOfDrying_22, eX6_errorOfDrying_23, eX6_errorOfDrying_26, eX6_errorOfDrying_27, eX6_errorOfDrying_30, eX6_errorOfDrying_31, eX6_errorOfDrying_32, eX6_errorOfDrying_35, eX6_errorOfDrying_38, eX6_errorOfDrying_41, eX6_errorOfDrying_43, eX6_errorOfDrying_44, eX6_errorOfDrying_47, eX6_errorOfDrying_50, eX6_errorOfDrying_51, if_pos, if_neg, if_true, if_false, Option.bind_some, Option.toList_some, Option.toList_none, List.cons_append, List.nil_append, e]
    unfold errDry
    rw [if_neg c]
    have s0 := step 0 (by omega)
    have s1 := step 1 (by omega)
    have s2 := step 2 (by omega)
    rw [show ((0 : Nat) : Int) = 0 from rfl, show ((0 : Int) + 1) = 1 from rfl] at s0
    rw [show ((1 : Nat) : Int) = 1 from rfl, show ((1 : Int) + 1) = 2 from rfl] at s1
    rw [show ((2 : Nat) : Int) = 2 from rfl, show ((2 : Int) + 1) = 3 from rfl] at s2
    rw [s0]
    by_cases z0 : cnt (RA A 0) 300 + cnt (adds (RA A 0) (tk A 0)) 300 ≤ 40
    · rw [if_pos z0, s1]
      by_cases z1 : cnt (RA A 1) 300 + cnt (adds (RA A 1) (tk A 1)) 300 ≤ 40
      · rw [if_pos z1, s2]
        by_cases z2 : cnt (RA A 2) 300 + cnt (adds (RA A 2) (tk A 2)) 300 ≤ 40
        · rw [if_pos z2, if_pos ⟨z0, z1, z2⟩, eX6_errorOfDrying_17]
          simp (disch := omega) only [eX6_errorOfDrying_0, eX6_errorOfDrying_1, eX6_errorOfDrying_4, eX6_errorOfDrying_7, eX6_errorOfDrying_8, eX6_errorOfDrying_9n, eX6_errorOfDrying_9r, eX6_errorOfDrying_12, eX6_errorOfDrying_14, eX6_errorOfDrying_15, eX6_errorOfDrying_16, eX6_errorOfDrying_18, eX6_errorOfDrying_19, eX6_errorOfDrying_22, eX6_errorOfDrying_23, eX6_errorOfDrying_26, eX6_errorOfDrying_27, eX6_errorOfDrying_30, eX6_errorOfDrying_31, eX6_errorOfDrying_32, eX6_errorOfDrying_35, eX6_errorOfDrying_38, eX6_errorOfDrying_41, eX6_errorOfDrying_43, eX6_errorOfDrying_44, eX6_errorOfDrying_47, eX6_errorOfDrying_50, eX6_errorOfDrying_51, if_pos, if_neg, if_true, if_false, Option.bind_some, Option.toList_some, Option.toList_none, List.cons_append, List.nil_append]
        · rw [if_neg z2, if_neg (fun y => z2 y.2.2)]
      · rw [if_neg z1, if_neg (fun y => z1 y.2.1)]
    · rw [if_neg z0, if_neg (fun y => z0 y.1)]
theorem mDry_R {u k : Nat} (hu : u < 3) (hk : k < 300) : RA (mDry A) u k = mrg (RA A u) (tk A u) k := by
  show mDry A (25 + 300 * u + k) = _
  unfold mDry
  rw [if_neg (by omega), if_pos (by omega), show (25 + 300 * u + k - 25) / 300 = u by omega, show (25 + 300 * u + k - 25) % 300 = k by omega]
theorem mDry_k {k : Nat} (h7 : k ≠ 7) (h : k < 25 ∨ 925 ≤ k) : mDry A k = A k := by
  unfold mDry
  rw [if_neg h7, if_neg (by omega)]
theorem l_give (hs : scnF s) {q : Nat} (hq : riv q) (hsq : s + 15 < q) {u : Nat} (hu : u < 3) {P : Nat → Nat → Int} (hP : RiverIs S (s + 3) (fun x => if x < u then mrg (RA A x) (P x) else RA A x)) (hQ : RiverIs S q P) (hroom : cnt (RA A u) 300 + cnt (adds (RA A u) (P u)) 300 ≤ 40) : ∃ S', rn xX6_giveBack (16, [some (vR s), some (vR q), some (vI u)], [], S) = rn xX6_giveBack (16, [some (vR s), some (vR q), some (vI (u + 1))], [], S') ∧ RiverIs S' (s + 3) (fun x => if x < u + 1 then mrg (RA A x) (P x) else RA A x) ∧ (∀ c, (c ≤ s + 3 ∨ s + 13 ≤ c) → S' c = S c) := by
  obtain ⟨k0, ht, hv, hd, hc⟩ := id hs
  obtain ⟨v0, -⟩ := id hv
  obtain ⟨q0, -⟩ := id hq
  have hne : ¬ u < u := by omega
  have e1 := s_pathOf (S := S) (w := (u : Int)) hv.1 (by omega)
  have e2 := s_pathOf (S := S) (w := (u : Int)) hq.1 (by omega)
  have hp := riv_pw (w := (u : Int)) hv (by omega)
  have ho := riv_pw (w := (u : Int)) hq (by omega)
  have p1 : pw (s + 3) (u : Int) = s + 3 + 1 + 3 * u := by unfold pw; rw [Int.toNat_natCast]
  have p2 : pw q (u : Int) = q + 1 + 3 * u := by unfold pw; rw [Int.toNat_natCast]
  have hPu := hP.pw (w := (u : Int)) (by omega)
  have hQu := hQ.pw (w := (u : Int)) (by omega)
  rw [Int.toNat_natCast] at hPu hQu
  simp only [if_neg hne] at hPu
  rw [p1] at e1 hp hPu
  rw [p2] at e2 ho hQu
  obtain ⟨pk, -⟩ := id hp
  obtain ⟨ok, -⟩ := id ho
  obtain ⟨T, f1, f2, f3⟩ := s_addAll hp ho (by omega) hPu hQu hroom
  refine ⟨T, ?_, ?_, fun c y1 => f3 c (by omega) (by omega) (by omega)⟩
  · rw [eX6_giveBack_16]
    simp (disch := omega) only [eX6_giveBack_0, eX6_giveBack_1, eX6_giveBack_4, eX6_giveBack_7, eX6_giveBack_8, eX6_giveBack_9n, eX6_giveBack_9r, eX6_giveBack_12, eX6_giveBack_13, eX6_giveBack_14, eX6_giveBack_15, eX6_giveBack_17, eX6_giveBack_18, eX6_giveBack_21, eX6_giveBack_22, eX6_giveBack_25, eX6_giveBack_26, eX6_giveBack_29, eX6_giveBack_30, eX6_giveBack_31, eX6_giveBack_34, eX6_giveBack_37, eX6_giveBack_40, eX6_giveBack_43, eX6_giveBack_44, eX6_giveBack_47, eX6_giveBack_50, eX6_giveBack_51, eX6_giveBack_54, if_pos, if_neg, if_true, if_false, Option.bind_some, Option.toList_some, Option.toList_none, List.cons_append, List.nil_append, e1, e2, f1]
  · refine (hP.set hu (fun c y1 y2 y3 => f3 c (by omega) (by omega) (by omega)) f2).congr (fun x k hx hk => ?_)
    by_cases y : x = u
    · rw [if_pos (by omega), if_pos y, y]
    · rw [if_neg y]
      by_cases y2 : x < u
      · rw [if_pos (by omega), if_pos y2]
      · rw [if_neg (by omega), if_neg y2]
theorem s_giveBack (hs : scnF s) (h : SceneIs S s A) (he : errDry A = 0) : ∃ S', fX6_giveBack [vR s] S = some (some (vI ((cnt (tk A 0) 300 : Int) + cnt (tk A 1) 300 + cnt (tk A 2) 300)), S') ∧ SceneIs S' s (mDry A) ∧ (∀ c, c < s ∨ s + 64 ≤ c → S' c = S c) := by
  obtain ⟨k0, ht, hv, hd, hc⟩ := id hs
  obtain ⟨d0, -⟩ := id hd
  obtain ⟨v0, -⟩ := id hv
  obtain ⟨h1, h2, h3, hF, h5, h6, h7, h8⟩ := id h
  unfold errDry at he
  have c7 : A 7 ≠ 0 := by
    intro y
    rw [if_pos y] at he
    omega
  rw [if_neg c7] at he
  have hro : cnt (RA A 0) 300 + cnt (adds (RA A 0) (tk A 0)) 300 ≤ 40 ∧ cnt (RA A 1) 300 + cnt (adds (RA A 1) (tk A 1)) 300 ≤ 40 ∧ cnt (RA A 2) 300 + cnt (adds (RA A 2) (tk A 2)) 300 ≤ 40 := by
    by_cases y : cnt (RA A 0) 300 + cnt (adds (RA A 0) (tk A 0)) 300 ≤ 40 ∧ cnt (RA A 1) 300 + cnt (adds (RA A 1) (tk A 1)) 300 ≤ 40 ∧ cnt (RA A 2) 300 + cnt (adds (RA A 2) (tk A 2)) 300 ≤ 40
    · exact y
    · rw [if_neg y] at he
      omega
  obtain ⟨q, e, hq, hr, hR⟩ := latest hs hF h5 c7
  obtain ⟨r0, -⟩ := id hr
  have hP0 : RiverIs S (s + 3) (fun x => if x < 0 then mrg (RA A x) (tk A x) else RA A x) := h3.congr (fun x k hx hk => by rw [if_neg (by omega)])
  obtain ⟨T1, e1, hP1, f1⟩ := l_give hs hr (by omega) (u := 0) (by omega) hP0 hR hro.1
  have hR1 := hR.rows (fun c y1 y2 => f1 c (by omega))
  obtain ⟨T2, e2, hP2, f2⟩ := l_give hs hr (by omega) (u := 1) (by omega) hP1 hR1 hro.2.1
  have hR2 := hR1.rows (fun c y1 y2 => f2 c (by omega))
  obtain ⟨T3, e3, hP3, f3⟩ := l_give hs hr (by omega) (u := 2) (by omega) hP2 hR2 hro.2.2
  have hR3 := hR2.rows (fun c y1 y2 => f3 c (by omega))
  have fT : ∀ c, (c ≤ s + 3 ∨ s + 13 ≤ c) → T3 c = S c := fun c y1 => by rw [f3 c y1, f2 c y1, f1 c y1]
  have hF3 : FloodsIs T3 (s + 13) (A 7).toNat (TA A) := hF.rows (fun c y1 y2 => fT c (by omega))
  obtain ⟨T4, e4, F4, f4⟩ := s_floodsDrop hd hF3 (by omega)
  have hR4 : RiverIs T4 (s + 16 + 10 * q) (tk A) := hR3.rows (fun c y1 y2 => f4 c (by omega))
  have e5 := s_stones hr hR4
  have hP4 : RiverIs T4 (s + 3) (RA (mDry A)) := (hP3.rows (fun c y1 y2 => f4 c (by omega))).congr (fun x k hx hk => by rw [mDry_R hx hk, if_pos (by omega)])
  have e7 : mDry A 7 = A 7 - 1 := by unfold mDry; rw [if_pos rfl]
  refine ⟨T4, ?_, ⟨fun j hj => ?_, ?_, hP4, ?_, by rw [e7]; omega, ?_, ?_, ?_⟩, fun c hc2 => by rw [f4 c (by omega), fT c (by omega)]⟩
  · rw [uX6_giveBack]
    have e0 := e1.trans (e2.trans e3)
    rw [show ((0 : Nat) : Int) = 0 from rfl, show ((2 : Nat) : Int) + 1 = 3 from rfl] at e0
    simp (disch := omega) only [eX6_giveBack_0, eX6_giveBack_1, eX6_giveBack_4, eX6_giveBack_7, eX6_giveBack_8, eX6_giveBack_9n, eX6_giveBack_9r, eX6_giveBack_12, eX6_giveBack_13, eX6_giveBack_14, eX6_giveBack_15, eX6_giveBack_17, eX6_giveBack_18, eX6_giveBack_21, eX6_giveBack_22, eX6_giveBack_25, eX6_giveBack_26, eX6_giveBack_29, eX6_giveBack_30, eX6_giveBack_31, eX6_giveBack_34, eX6_giveBack_37, eX6_giveBack_40, eX6_giveBack_43, eX6_giveBack_44, eX6_giveBack_47, eX6_giveBack_50, eX6_giveBack_51, eX6_giveBack_54, if_pos, if_neg, if_true, if_false, Option.bind_some, Option.toList_some, Option.toList_none, List.cons_append, List.nil_append, e]
    rw [e0, eX6_giveBack_16]
    simp (disch := omega) only [eX6_giveBack_0, eX6_giveBack_1, eX6_giveBack_4, eX6_giveBack_7, eX6_giveBack_8, eX6_giveBack_9n, eX6_giveBack_9r, eX6_giveBack_12, eX6_giveBack_13, eX6_giveBack_14, eX6_giveBack_15, eX6_giveBack_17, eX6_giveBack_18, eX6_giveBack_21, eX6_giveBack_22, eX6_giveBack_25, eX6_giveBack_26, eX6_giveBack_29, eX6_giveBack_30, eX6_giveBack_31, eX6_giveBack_34, eX6_giveBack_37, eX6_giveBack_40, eX6_giveBack_43, eX6_giveBack_44, eX6_giveBack_47, eX6_giveBack_50, eX6_giveBack_51, eX6_giveBack_54, if_pos, if_neg, if_true, if_false, Option.bind_some, Option.toList_some, Option.toList_none, List.cons_append, List.nil_append, e4, e5]
  · rw [f4 _ (by omega), fT _ (by omega), mDry_k (by omega) (by omega)]
    exact h1 j hj
  · unfold StgR
    rw [mDry_k (k := 0) (by omega) (by omega), mDry_k (k := 1) (by omega) (by omega), mDry_k (k := 2) (by omega) (by omega), mDry_k (k := 3) (by omega) (by omega)]
    exact h2
  · rw [e7, show (A 7 - 1).toNat = (A 7).toNat - 1 by omega]
    exact F4.congr (fun j u k hj hu hk => mDry_k (by omega) (by omega))
  · exact (h6.rows (fun c y1 y2 => by rw [f4 c (by omega), fT c (by omega)])).congr (fun k y1 y2 y3 => mDry_k (by omega) (by omega)) (fun k y1 y2 => mDry_k (by omega) (by omega))
  · exact h7.congr (fun k y1 y2 y3 => mDry_k (by omega) (by omega)) (fun k y1 y2 => mDry_k (by omega) (by omega))
  · refine RunS_mono h8 h7 (fun k hk => mDry_k (by omega) (by omega)) (fun u k hu hk hp => ?_)
    rw [mDry_R hu hk]
    unfold mrg
    split
    · split <;> omega
    · exact hp
end DR
