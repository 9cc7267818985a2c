/-! the run to its end; slips; figures; a copy -/
section FIN
variable {S : MM} {c v t : Nat} {A : Nat → Int} {R : Nat → Nat → Int}
theorem mLeap_lo {k : Nat} (hr : RunR A) (h1 : A 1 ≤ 299) (h : k < 4 ∨ k = 7 ∨ (23 ≤ k ∧ k < 925) ∨ 1225 ≤ k) : mLeap A R k = A k := by
  have hn := nxtW_b A
  unfold mLeap
  rw [mLook_ne (by omega) (by omega) (by omega) (Or.inr (Or.inr (by rw [mLeapW_k (by omega) (by omega)]; exact h1))), mLeapW_k (by omega) (by omega)]
theorem mLook_20 {u : Nat} (h1 : A 1 ≤ 299) (hu : u < 3) : mLook A R (20 + u) = A (20 + u) := mLook_ne (by omega) (by omega) (by omega) (Or.inr (Or.inr h1))
theorem StgR.leap (hA : StgR A) (hr : RunR A) : StgR (mLeap A R) := by
  unfold StgR
  rw [mLeap_lo hr hA.2.1.2 (by omega), mLeap_lo hr hA.2.1.2 (by omega), mLeap_lo hr hA.2.1.2 (by omega), mLeap_lo hr hA.2.1.2 (by omega)]
  exact hA
theorem leap_inv (hA : StgR A) (hr : RunR A) (hs : RunS A R) (hR : RB R) (h4 : A 4 = 1) : RunR (mLeap A R) ∧ RunS (mLeap A R) R := by
  have hn := nxtW_b A
  have hsh := nxtW_short hA hs h4
  have hw : (nxtW A).toNat < 3 := by omega
  have h1 : (mLeapW A (R (nxtW A).toNat) (nxtW A).toNat) 1 = A 1 := mLeapW_k hw (by omega)
  have h44 : (mLeapW A (R (nxtW A).toNat) (nxtW A).toNat) 4 = A 4 := mLeapW_k hw (by omega)
  have r1 := RunR_leapW (R := R) hw hr hsh
  have o1 := onS_leapW hw hr (hs.on hr (by omega))
  unfold mLeap
  exact ⟨RunR_look r1 (by rw [h1]; exact hA.2.1) hR, RunS_look r1 (by rw [h1]; exact hA.2.1) (by rw [h44]; omega) (fun _ => o1)⟩
def pot (A : Nat → Int) : Int := (300 - A 20) + (300 - A 21) + (300 - A 22)
theorem pot_b (hr : RunR A) : 0 ≤ pot A ∧ pot A ≤ 900 := by
  obtain ⟨b0, b1, b2⟩ := hr.b
  unfold pot
  omega
theorem pot_leap (hA : StgR A) (hr : RunR A) (hs : RunS A R) (h4 : A 4 = 1) : pot (mLeap A R) < pot A := by
  have hn := nxtW_b A
  have hsh := nxtW_short hA hs h4
  have g1 := hr.1
  obtain ⟨w, hw⟩ : ∃ w : Nat, nxtW A = (w : Int) := ⟨(nxtW A).toNat, by omega⟩
  have h1 : (mLeapW A (R w) w) 1 ≤ 299 := by rw [mLeapW_k (by omega) (by omega)]; exact hA.2.1.2
  have hf := fst_spec (R w) (k := (A 5).toNat) (by omega)
  unfold pot mLeap
  rw [hw, Int.toNat_natCast] at hsh ⊢
  have e0 := mLook_20 (A := mLeapW A (R w) w) (R := R) (u := 0) h1 (by omega)
  have e1 := mLook_20 (A := mLeapW A (R w) w) (R := R) (u := 1) h1 (by omega)
  have e2 := mLook_20 (A := mLeapW A (R w) w) (R := R) (u := 2) h1 (by omega)
  rw [mLeapW_20 (by omega) (by omega)] at e0 e1 e2
  have e0 : mLook (mLeapW A (R w) w) R 20 = _ := e0
  have e1 : mLook (mLeapW A (R w) w) R 21 = _ := e1
  have e2 : mLook (mLeapW A (R w) w) R 22 = _ := e2
  rw [e0, e1, e2]
  rcases (show w = 0 ∨ w = 1 ∨ w = 2 by omega) with rfl | rfl | rfl
  · have hsh : A 20 < A 5 := hsh
    rw [if_pos rfl, if_neg (by omega), if_neg (by omega)]
    show _ + (300 - A 21) + (300 - A 22) < _
    omega
  · have hsh : A 21 < A 5 := hsh
    rw [if_neg (by omega), if_pos rfl, if_neg (by omega)]
    show (300 - A 20) + _ + (300 - A 22) < _
    omega
  · have hsh : A 22 < A 5 := hsh
    rw [if_neg (by omega), if_neg (by omega), if_pos rfl]
    show (300 - A 20) + (300 - A 21) + _ < _
    omega
def mRunF : Nat → (Nat → Int) → (Nat → Nat → Int) → (Nat → Int) × Int
  | 0, A, _ => (A, 0)
  | f + 1, A, R => if A 4 = 1 then ((mRunF f (mLeap A R) R).1, (mRunF f (mLeap A R) R).2 + 1) else (A, 0)
def mRun (A : Nat → Int) (R : Nat → Nat → Int) : (Nat → Int) × Int := mRunF 1000 A R
theorem runF_inv (hR : RB R) : ∀ (f : Nat) (A : Nat → Int), StgR A → RunR A → RunS A R → pot A < f → (RunR (mRunF f A R).1 ∧ RunS (mRunF f A R).1 R ∧ (mRunF f A R).1 4 ≠ 1 ∧ (0 ≤ (mRunF f A R).2 ∧ (mRunF f A R).2 ≤ f)) ∧ ∀ k, (k < 4 ∨ k = 7 ∨ (23 ≤ k ∧ k < 925) ∨ 1225 ≤ k) → (mRunF f A R).1 k = A k := by
  intro f
  induction f with
  | zero =>
    intro A hA hr hs hp
    have := pot_b hr
    omega
  | succ f ih =>
    intro A hA hr hs hp
    rw [mRunF]
    by_cases h4 : A 4 = 1
    · rw [if_pos h4]
      have h1 := leap_inv hA hr hs hR h4
      have h2 := pot_leap hA hr hs h4
      obtain ⟨⟨g1, g2, g3, g4⟩, g5⟩ := ih (mLeap A R) (hA.leap hr) h1.1 h1.2 (by omega)
      exact ⟨⟨g1, g2, g3, by dsimp only; omega⟩, fun k hk => by dsimp only; rw [g5 k hk, mLeap_lo hr hA.2.1.2 hk]⟩
    · rw [if_neg h4]
      exact ⟨⟨hr, hs, h4, by dsimp only; omega⟩, fun k hk => rfl⟩
theorem runF_eq (hR : RB R) : ∀ (f g : Nat) (A : Nat → Int), StgR A → RunR A → RunS A R → pot A < f → pot A < g → mRunF f A R = mRunF g A R := by
  intro f
  induction f with
  | zero =>
    intro g A hA hr hs hp
    have := pot_b hr
    omega
  | succ f ih =>
    intro g A hA hr hs hp hg
    cases g with
    | zero =>
      have := pot_b hr
      omega
    | succ g =>
      rw [mRunF, mRunF]
      by_cases h4 : A 4 = 1
      · have h1 := leap_inv hA hr hs hR h4
        have h2 := pot_leap hA hr hs h4
        rw [ih g (mLeap A R) (hA.leap hr) h1.1 h1.2 (by omega) (by omega)]
      · rw [if_neg h4, if_neg h4]
theorem l_finish (hc : crs c) (hv : riv v) (hcv : c + 7 < v ∨ v + 9 < c) (ht : stg t) (hct : c + 7 < t ∨ t + 1 < c) (hc6 : c < 590) : ∀ (f : Nat) (many : Int) (A : Nat → Int) (S : MM), many + f = 1000 → 0 ≤ many → pot A < f → StgR A → StgIs S t A → RiverIs S v R → TNS S → CrossIs S c A → RunR A → RunS A R →
    ∃ S', rn xX0_finish (2, [some (vR c), some (vR v), some (vR t), some (vI many)], [], S) = some (some (vI (many + (mRunF f A R).2)), S') ∧ CrossIs S' c (mRunF f A R).1 ∧ (∀ a, a < c ∨ c + 8 ≤ a → S' a = S a) := by
  obtain ⟨⟨k0, -⟩, -⟩ := id hc
  intro f
  induction f with
  | zero =>
    intro many A S h1 h2 h3 hA hS hRi hT h hr hs
    have := pot_b hr
    omega
  | succ f ih =>
    intro many A S h1 h2 h3 hA hS hRi hT h hr hs
    have hgo := s_goesOn hc h
    rw [mRunF, eX0_finish_2]
    by_cases h4 : A 4 = 1
    · rw [if_pos h4] at hgo ⊢
      obtain ⟨S1, e1, e2, e3⟩ := s_step hc hv hcv ht hct hA hS hRi hT hc6 h hr hs h4
      have i1 := leap_inv hA hr hs hRi.rb h4
      have i2 := pot_leap hA hr hs h4
      obtain ⟨S', f1, f2, f3⟩ := ih (many + 1) (mLeap A R) S1 (by omega) (by omega) (by omega) (hA.leap hr) (fun j hj => by rw [e3 _ (by omega), hS j hj, mLeap_lo hr hA.2.1.2 (by omega)]) (hRi.rows (fun a y1 y2 => e3 a (by omega))) (hT.rows (e3 _ (by omega)) (e3 _ (by omega))) e2 i1.1 i1.2
      refine ⟨S', ?_, f2, fun a ha => by rw [f3 a ha, e3 a ha]⟩
      simp (disch := omega) only [eX0_finish_0, eX0_finish_1, eX0_finish_3, eX0_finish_6, eX0_finish_9, eX0_finish_10, eX0_finish_13, eX0_finish_16, eX0_finish_17, eX0_finish_18, eX0_finish_19, eX0_finish_22, eX0_finish_23, eX0_finish_26, eX0_finish_29, eX0_finish_30, if_pos, if_neg, if_true, if_false, Option.bind_some, Option.toList_some, Option.toList_none, List.cons_append, List.nil_append, hgo, e1]
      rw [f1]
      congr 4
      show many + 1 + _ = many + (_ + 1)
      omega
    · rw [if_neg h4] at hgo ⊢
      refine ⟨S, ?_, h, fun _ _ => rfl⟩
      simp (disch := omega) only [eX0_finish_0, eX0_finish_1, eX0_finish_3, eX0_finish_6, eX0_finish_9, eX0_finish_10, eX0_finish_13, eX0_finish_16, eX0_finish_17, eX0_finish_18, eX0_finish_19, eX0_finish_22, eX0_finish_23, eX0_finish_26, eX0_finish_29, eX0_finish_30, if_pos, if_neg, if_true, if_false, Option.bind_some, Option.toList_some, Option.toList_none, List.cons_append, List.nil_append, hgo, Int.add_zero]
theorem s_finish (hc : crs c) (hv : riv v) (hcv : c + 7 < v ∨ v + 9 < c) (ht : stg t) (hct : c + 7 < t ∨ t + 1 < c) (hc6 : c < 590) (hA : StgR A) (hS : StgIs S t A) (hR : RiverIs S v R) (hT : TNS S) (h : CrossIs S c A) (hr : RunR A) (hs : RunS A R) :
    ∃ S', fX0_finish [vR c, vR v, vR t] S = some (some (vI (mRun A R).2), S') ∧ CrossIs S' c (mRun A R).1 ∧ (∀ a, a < c ∨ c + 8 ≤ a → S' a = S a) := by
  have hp := pot_b hr
  obtain ⟨S', e1, e2⟩ := l_finish hc hv hcv ht hct hc6 1000 0 A S (by omega) (by omega) (by omega) hA hS hR hT h hr hs
  refine ⟨S', ?_, e2⟩
  rw [Int.zero_add] at e1
  unfold mRun
  rw [← e1, uX0_finish]
  simp (disch := omega) only [eX0_finish_0, eX0_finish_1, eX0_finish_3, eX0_finish_6, eX0_finish_9, eX0_finish_10, eX0_finish_13, eX0_finish_16, eX0_finish_17, eX0_finish_18, eX0_finish_19, eX0_finish_22, eX0_finish_23, eX0_finish_26, eX0_finish_29, eX0_finish_30, if_pos, if_neg, if_true, if_false, Option.bind_some, Option.toList_some, Option.toList_none, List.cons_append, List.nil_append]
/-! slips -/
def mSlipW (A : Nat → Int) (r : Nat → Int) (w : Nat) : Nat → Int := if A 4 ≠ 0 ∧ A (20 + w) ≠ 300 ∧ ¬ 0 < r (A (20 + w)).toNat then (fun k => if k = 20 + w then (fst r (A (20 + w)).toNat : Int) else if k = 14 + w then A k + (if A 4 = 1 then 1 else 0) else A k) else A
def mSlip (A : Nat → Int) (R : Nat → Nat → Int) : Nat → Int := mSlipW (mSlipW (mSlipW A (R 0) 0) (R 1) 1) (R 2) 2
theorem mSlipW_k {r : Nat → Int} {w k : Nat} (h1 : k ≠ 20 + w) (h2 : k ≠ 14 + w) : mSlipW A r w k = A k := by
  unfold mSlipW
  split
  · show (if k = 20 + w then _ else if k = 14 + w then _ else A k) = A k
    rw [if_neg h1, if_neg h2]
  · rfl
theorem mSlipW_M {r : Nat → Int} {w : Nat} (hw : w < 3) : MetA (mSlipW A r w) = MetA A := by
  funext k
  exact mSlipW_k (by omega) (by omega)
theorem RunR_slipW {r : Nat → Int} {w : Nat} (hw : w < 3) (hr : RunR A) : RunR (mSlipW A r w) := by
  obtain ⟨g1, g2, g3, g4, g5⟩ := id hr
  unfold RunR
  rw [mSlipW_M hw, mSlipW_k (by omega) (by omega), mSlipW_k (k := 6) (by omega) (by omega)]
  refine ⟨g1, g2, g3, g4, fun u hu => ?_⟩
  have h5 := g5 u hu
  rw [mSlipW_k (k := 8 + u) (by omega) (by omega), mSlipW_k (k := 11 + u) (by omega) (by omega), mSlipW_k (k := 17 + u) (by omega) (by omega)]
  by_cases q : u = w
  · subst q
    unfold mSlipW
    split
    · next hc =>
      have hf := fst_spec r (k := (A (20 + u)).toNat) (by omega)
      have hne : fst r (A (20 + u)).toNat ≠ (A (20 + u)).toNat := by
        intro z
        rw [z] at hf
        exact hc.2.2 (hf.2.2.2 (by omega))
      show (0 ≤ (if 20 + u = 20 + u then (fst r (A (20 + u)).toNat : Int) else _) ∧ (if 20 + u = 20 + u then (fst r (A (20 + u)).toNat : Int) else _) ≤ 300) ∧ (0 ≤ A (8 + u) ∧ 0 ≤ (if 14 + u = 20 + u then _ else if 14 + u = 14 + u then A (14 + u) + _ else _) ∧ A (8 + u) + (if 14 + u = 20 + u then _ else if 14 + u = 14 + u then A (14 + u) + _ else _) ≤ (if 20 + u = 20 + u then (fst r (A (20 + u)).toNat : Int) else _)) ∧ _
      rw [if_pos rfl, if_neg (by omega), if_pos rfl]
      refine ⟨by omega, ⟨by omega, ?_, ?_⟩, h5.2.2⟩
      · split <;> omega
      · split <;> omega
    · exact h5
  · rw [mSlipW_k (k := 20 + u) (by omega) (by omega), mSlipW_k (k := 14 + u) (by omega) (by omega)]
    exact h5
theorem l_slip (hc : crs c) (hv : riv v) (hcv : c + 7 < v ∨ v + 9 < c) (hR : RiverIs S v R) (h : CrossIs S c A) (hr : RunR A) (hb : A 4 ≠ 0) {w : Nat} (hw : w < 3) (x : Option VV) : ∃ S', rn xX0_slip (10, [some (vR c), some (vR v), some (vI w), x], [], S) = rn xX0_slip (10, [some (vR c), some (vR v), some (vI (w + 1)), some (vR (pw v w))], [], S') ∧ CrossIs S' c (mSlipW A (R w) w) ∧ (∀ a, a < c ∨ c + 8 ≤ a → S' a = S a) := by
  obtain ⟨⟨k0, k1, k2, k3, k4, k5, k6, k7⟩, a1, a2, a3, a4, a5, a6, a7⟩ := id hc
  have hp := riv_pw (w := (w : Int)) hv (by omega)
  obtain ⟨r0, -⟩ := id hv
  obtain ⟨p0, -⟩ := id hp
  have e1 := s_pathOf (S := S) (w := (w : Int)) hv.1 (by omega)
  have hP := hR.pw (w := (w : Int)) (by omega)
  rw [Int.toNat_natCast] at hP
  have t0 : S (c + 3) w = A (20 + w) := h.2.2.2.2.1 w hw
  have t3 : S (c + 6) w = A (14 + w) := h.2.2.2.2.2.2.2.1 w hw
  have h5 := hr.2.2.2.2 w hw
  have hf1 : S c 1 = 0 ∨ S c 1 = 1 := (flg_b h).2
  unfold mSlipW
  by_cases q : A (20 + w) = 300
  · rw [if_neg (fun y => y.2.1 q)]
    refine ⟨S, ?_, h, fun _ _ => rfl⟩
    rw [eX0_slip_10]
    simp (disch := omega) only [eX0_slip_0, eX0_slip_1, eX0_slip_4, eX0_slip_7, eX0_slip_8, eX0_slip_9, eX0_slip_11, eX0_slip_12, eX0_slip_15, eX0_slip_16, eX0_slip_17, eX0_slip_20, eX0_slip_21, eX0_slip_22, eX0_slip_25, eX0_slip_26, eX0_slip_26x, eX0_slip_26y, eX0_slip_27, eX0_slip_30, eX0_slip_33, eX0_slip_34, eX0_slip_35, eX0_slip_38, eX0_slip_39, eX0_slip_39x, eX0_slip_39y, eX0_slip_40, eX0_slip_43, eX0_slip_46, eX0_slip_47, eX0_slip_50, eX0_slip_51, eX0_slip_52, eX0_slip_53, eX0_slip_56, eX0_slip_57, eX0_slip_57x, eX0_slip_57y, eX0_slip_58, eX0_slip_61, eX0_slip_62, eX0_slip_63, eX0_slip_66, eX0_slip_67, eX0_slip_68, eX0_slip_68x, eX0_slip_68y, eX0_slip_69, eX0_slip_70, eX0_slip_73, eX0_slip_76, eX0_slip_77, eX0_slip_80, eX0_slip_81, eX0_slip_82, eX0_slip_83, eX0_slip_86, eX0_slip_89, if_pos, if_neg, if_true, if_false, Option.bind_some, Option.toList_some, Option.toList_none, List.cons_append, List.nil_append, e1, Int.toNat_natCast, t0]
  · have e2 := s_has hp hP (key := A (20 + w)) ⟨by omega, by omega⟩
    have erv : rv (R w) (A (20 + w)) = R w (A (20 + w)).toNat := by unfold rv; rw [if_pos (by omega)]
    rw [erv] at e2
    by_cases z : 0 < R w (A (20 + w)).toNat
    · rw [if_neg (fun y => y.2.2 z)]
      rw [if_pos z] at e2
      refine ⟨S, ?_, h, fun _ _ => rfl⟩
      rw [eX0_slip_10]
      simp (disch := omega) only [eX0_slip_0, eX0_slip_1, eX0_slip_4, eX0_slip_7, eX0_slip_8, eX0_slip_9, eX0_slip_11, eX0_slip_12, eX0_slip_15, eX0_slip_16, eX0_slip_17, eX0_slip_20, eX0_slip_21, eX0_slip_22, eX0_slip_25, eX0_slip_26, eX0_slip_26x, eX0_slip_26y, eX0_slip_27, eX0_slip_30, eX0_slip_33, eX0_slip_34, eX0_slip_35, eX0_slip_38, eX0_slip_39, eX0_slip_39x, eX0_slip_39y, eX0_slip_40, eX0_slip_43, eX0_slip_46, eX0_slip_47, eX0_slip_50, eX0_slip_51, eX0_slip_52, eX0_slip_53, eX0_slip_56, eX0_slip_57, eX0_slip_57x, eX0_slip_57y, eX0_slip_58, eX0_slip_61, eX0_slip_62, eX0_slip_63, eX0_slip_66, eX0_slip_67, eX0_slip_68, eX0_slip_68x, eX0_slip_68y, eX0_slip_69, eX0_slip_70, eX0_slip_73, eX0_slip_76, eX0_slip_77, eX0_slip_80, eX0_slip_81, eX0_slip_82, eX0_slip_83, eX0_slip_86, eX0_slip_89, if_pos, if_neg, if_true, if_false, Option.bind_some, Option.toList_some, Option.toList_none, List.cons_append, List.nil_append, e1, Int.toNat_natCast, t0, e2]
    · rw [if_pos ⟨hb, q, z⟩]
      rw [if_neg z] at e2
      have e3 := s_firstKeyFrom hp hP (key := A (20 + w)) h5.1
      have o1 : S c 1 = (if A 4 = 1 then 0 else 1) := by
        rcases h.1 with y | y | y
        · exact absurd y.1 hb
        · rw [if_pos y.1]; exact y.2.2
        · rw [if_neg (by omega)]; exact y.2.2
      refine ⟨updM (updM S (c + 3) w (fst (R w) (A (20 + w)).toNat)) (c + 6) w (A (14 + w) + (if A 4 = 1 then 1 else 0)), ?_, ?_, fun a ha => by rw [updM_ne (by omega), updM_ne (by omega)]⟩
      · have n1 : updM S (c + 3) w (fst (R w) (A (20 + w)).toNat) (c + 6) w = A (14 + w) := by rw [updM_ne (by omega)]; exact t3
        have n2 : updM S (c + 3) w (fst (R w) (A (20 + w)).toNat) c 1 = (if A 4 = 1 then 0 else 1) := by rw [updM_ne (by omega)]; exact o1
        rw [eX0_slip_10]
        by_cases y : A 4 = 1
        · rw [if_pos y] at n2 ⊢
          simp (disch := omega) only [eX0_slip_0, eX0_slip_1, eX0_slip_4, eX0_slip_7, eX0_slip_8, eX0_slip_9, eX0_slip_11, eX0_slip_12, eX0_slip_15, eX0_slip_16, eX0_slip_17, eX0_slip_20, eX0_slip_21, eX0_slip_22, eX0_slip_25, eX0_slip_26, eX0_slip_26x, eX0_slip_26y, eX0_slip_27, eX0_slip_30, eX0_slip_33, eX0_slip_34, eX0_slip_35, eX0_slip_38, eX0_slip_39, eX0_slip_39x, eX0_slip_39y, eX0_slip_40, eX0_slip_43, eX0_slip_46, eX0_slip_47, eX0_slip_50, eX0_slip_51, eX0_slip_52, eX0_slip_53, eX0_slip_56, eX0_slip_57, eX0_slip_57x, eX0_slip_57y, eX0_slip_58, eX0_slip_61, eX0_slip_62, eX0_slip_63, eX0_slip_66, eX0_slip_67, eX0_slip_68, eX0_slip_68x, eX0_slip_68y, eX0_slip_69, eX0_slip_70, eX0_slip_73, eX0_slip_76, eX0_slip_77, eX0_slip_80, eX0_slip_81, eX0_slip_82, eX0_slip_83, eX0_slip_86, eX0_slip_89, if_pos, if_neg, if_true, if_false, Option.bind_some, Option.toList_some, Option.toList_none, List.cons_append, List.nil_append, e1, Int.toNat_natCast, t0, e2, e3, n1, n2]
        · rw [if_neg y] at n2 ⊢
          simp (disch := omega) only [eX0_slip_0, eX0_slip_1, eX0_slip_4, eX0_slip_7, eX0_slip_8, eX0_slip_9, eX0_slip_11, eX0_slip_12, eX0_slip_15, eX0_slip_16, eX0_slip_17, eX0_slip_20, eX0_slip_21, eX0_slip_22, eX0_slip_25, eX0_slip_26, eX0_slip_26x, eX0_slip_26y, eX0_slip_27, eX0_slip_30, eX0_slip_33, eX0_slip_34, eX0_slip_35, eX0_slip_38, eX0_slip_39, eX0_slip_39x, eX0_slip_39y, eX0_slip_40, eX0_slip_43, eX0_slip_46, eX0_slip_47, eX0_slip_50, eX0_slip_51, eX0_slip_52, eX0_slip_53, eX0_slip_56, eX0_slip_57, eX0_slip_57x, eX0_slip_57y, eX0_slip_58, eX0_slip_61, eX0_slip_62, eX0_slip_63, eX0_slip_66, eX0_slip_67, eX0_slip_68, eX0_slip_68x, eX0_slip_68y, eX0_slip_69, eX0_slip_70, eX0_slip_73, eX0_slip_76, eX0_slip_77, eX0_slip_80, eX0_slip_81, eX0_slip_82, eX0_slip_83, eX0_slip_86, eX0_slip_89, if_pos, if_neg, if_true, if_false, Option.bind_some, Option.toList_some, Option.toList_none, List.cons_append, List.nil_append, e1, Int.toNat_natCast, t0, e2, e3, n1, n2]
      · obtain ⟨y1, y2, y3, ym, s1, s2, s3, s4, s5⟩ := h
        have eM : MetA (fun k => if k = 20 + w then (fst (R w) (A (20 + w)).toNat : Int) else if k = 14 + w then A k + (if A 4 = 1 then 1 else 0) else A k) = MetA A := by
          funext k
          show (if 925 + k = 20 + w then _ else if 925 + k = 14 + w then _ else A (925 + k)) = A (925 + k)
          rw [if_neg (by omega), if_neg (by omega)]
        unfold CrossIs flg mtg tri
        rw [eM, updM_ne (show c ≠ c + 6 by omega), updM_ne (show c ≠ c + 3 by omega), updM_ne (show c + 1 ≠ c + 6 by omega), updM_ne (show c + 1 ≠ c + 3 by omega), updM_ne (show c + 2 ≠ c + 6 by omega), updM_ne (show c + 2 ≠ c + 3 by omega), updM_ne (show c + 4 ≠ c + 6 by omega), updM_ne (show c + 4 ≠ c + 3 by omega), updM_ne (show c + 5 ≠ c + 6 by omega), updM_ne (show c + 5 ≠ c + 3 by omega), updM_ne (show c + 7 ≠ c + 6 by omega), updM_ne (show c + 7 ≠ c + 3 by omega), updM_ne (show c + 3 ≠ c + 6 by omega), updM_eq, updM_eq, updM_ne (show c + 6 ≠ c + 3 by omega)]
        refine ⟨?_, ?_, ?_, ym, fun u hu => ?_, fun u hu => ?_, fun u hu => ?_, fun u hu => ?_, fun u hu => ?_⟩
        · simp only [show ¬ (4 = 20 + w) by omega, show ¬ (4 = 14 + w) by omega, if_false]
          exact y1
        · simp only [show ¬ (5 = 20 + w) by omega, show ¬ (5 = 14 + w) by omega, if_false]
          exact y2
        · simp only [show ¬ (6 = 20 + w) by omega, show ¬ (6 = 14 + w) by omega, if_false]
          exact y3
        · by_cases y : u = w
          · subst y
            simp only [if_true]
            rw [up_eq]
          · simp only [show ¬ (20 + u = 20 + w) by omega, show ¬ (20 + u = 14 + w) by omega, if_false]
            rw [up_ne y]
            exact s1 u hu
        · simp only [show ¬ (8 + u = 20 + w) by omega, show ¬ (8 + u = 14 + w) by omega, if_false]
          exact s2 u hu
        · simp only [show ¬ (11 + u = 20 + w) by omega, show ¬ (11 + u = 14 + w) by omega, if_false]
          exact s3 u hu
        · by_cases y : u = w
          · subst y
            simp only [show ¬ (14 + u = 20 + u) by omega, if_false, if_true]
            rw [up_eq]
          · simp only [show ¬ (14 + u = 20 + w) by omega, show ¬ (14 + u = 14 + w) by omega, if_false]
            rw [up_ne y]
            exact s4 u hu
        · simp only [show ¬ (17 + u = 20 + w) by omega, show ¬ (17 + u = 14 + w) by omega, if_false]
          exact s5 u hu
theorem s_slip (hc : crs c) (hv : riv v) (hcv : c + 7 < v ∨ v + 9 < c) (hR : RiverIs S v R) (h : CrossIs S c A) (hr : RunR A) : ∃ S', fX0_slip [vR c, vR v] S = some (none, S') ∧ CrossIs S' c (mSlip A R) ∧ (∀ a, a < c ∨ c + 8 ≤ a → S' a = S a) := by
  obtain ⟨⟨k0, k1, k2, k3, k4, k5, k6, k7⟩, a1, a2, a3, a4, a5, a6, a7⟩ := id hc
  by_cases hb : A 4 = 0
  · have f0 : S c 0 = 0 := by rcases h.1 with y | y | y <;> omega
    refine ⟨S, ?_, ?_, fun _ _ => rfl⟩
    · rw [uX0_slip]
      simp (disch := omega) only [eX0_slip_0, eX0_slip_1, eX0_slip_4, eX0_slip_7, eX0_slip_8, eX0_slip_9, eX0_slip_11, eX0_slip_12, eX0_slip_15, eX0_slip_16, eX0_slip_17, eX0_slip_20, eX0_slip_21, eX0_slip_22, eX0_slip_25, eX0_slip_26, eX0_slip_26x, eX0_slip_26y, eX0_slip_27, eX0_slip_30, eX0_slip_33, eX0_slip_34, eX0_slip_35, eX0_slip_38, eX0_slip_39, eX0_slip_39x, eX0_slip_39y, eX0_slip_40, eX0_slip_43, eX0_slip_46, eX0_slip_47, eX0_slip_50, eX0_slip_51, eX0_slip_52, eX0_slip_53, eX0_slip_56, eX0_slip_57, eX0_slip_57x, eX0_slip_57y, eX0_slip_58, eX0_slip_61, eX0_slip_62, eX0_slip_63, eX0_slip_66, eX0_slip_67, eX0_slip_68, eX0_slip_68x, eX0_slip_68y, eX0_slip_69, eX0_slip_70, eX0_slip_73, eX0_slip_76, eX0_slip_77, eX0_slip_80, eX0_slip_81, eX0_slip_82, eX0_slip_83, eX0_slip_86, eX0_slip_89, if_pos, if_neg, if_true, if_false, Option.bind_some, Option.toList_some, Option.toList_none, List.cons_append, List.nil_append]
    · have e : ∀ (r : Nat → Int) (w : Nat), mSlipW A r w = A := fun r w => by unfold mSlipW; rw [if_neg (fun y => y.1 hb)]
      unfold mSlip
      rw [e, e, e]
      exact h
  · have f0 : S c 0 = 1 := by rcases h.1 with y | y | y <;> omega
    obtain ⟨S1, e1, e2, e3⟩ := l_slip hc hv hcv hR h hr hb (w := 0) (by omega) none
    have b1 : mSlipW A (R 0) 0 4 ≠ 0 := by rw [mSlipW_k (by omega) (by omega)]; exact hb
    have r1 := RunR_slipW (r := R 0) (w := 0) (by omega) hr
    obtain ⟨S2, g1, g2, g3⟩ := l_slip (S := S1) hc hv hcv (hR.rows (fun a y1 y2 => e3 a (by omega))) e2 r1 b1 (w := 1) (by omega) (some (vR (pw v (0 : Nat))))
    have b2 : mSlipW (mSlipW A (R 0) 0) (R 1) 1 4 ≠ 0 := by rw [mSlipW_k (by omega) (by omega)]; exact b1
    have r2 := RunR_slipW (r := R 1) (w := 1) (by omega) r1
    obtain ⟨S3, j1, j2, j3⟩ := l_slip (S := S2) hc hv hcv (hR.rows (fun a y1 y2 => by rw [g3 a (by omega), e3 a (by omega)])) g2 r2 b2 (w := 2) (by omega) (some (vR (pw v (1 : Nat))))
    refine ⟨S3, ?_, j2, fun a ha => by rw [j3 a ha, g3 a ha, e3 a ha]⟩
    have e := e1.trans (g1.trans j1)
    have i3 : ((2 : Nat) : Int) + 1 = 3 := rfl
    have i0 : ((0 : Nat) : Int) = 0 := rfl
    rw [i3, i0] at e
    rw [uX0_slip]
    simp (disch := omega) only [eX0_slip_0, eX0_slip_1, eX0_slip_4, eX0_slip_7, eX0_slip_8, eX0_slip_9, eX0_slip_11, eX0_slip_12, eX0_slip_15, eX0_slip_16, eX0_slip_17, eX0_slip_20, eX0_slip_21, eX0_slip_22, eX0_slip_25, eX0_slip_26, eX0_slip_26x, eX0_slip_26y, eX0_slip_27, eX0_slip_30, eX0_slip_33, eX0_slip_34, eX0_slip_35, eX0_slip_38, eX0_slip_39, eX0_slip_39x, eX0_slip_39y, eX0_slip_40, eX0_slip_43, eX0_slip_46, eX0_slip_47, eX0_slip_50, eX0_slip_51, eX0_slip_52, eX0_slip_53, eX0_slip_56, eX0_slip_57, eX0_slip_57x, eX0_slip_57y, eX0_slip_58, eX0_slip_61, eX0_slip_62, eX0_slip_63, eX0_slip_66, eX0_slip_67, eX0_slip_68, eX0_slip_68x, eX0_slip_68y, eX0_slip_69, eX0_slip_70, eX0_slip_73, eX0_slip_76, eX0_slip_77, eX0_slip_80, eX0_slip_81, eX0_slip_82, eX0_slip_83, eX0_slip_86, eX0_slip_89, if_pos, if_neg, if_true, if_false, Option.bind_some, Option.toList_some, Option.toList_none, List.cons_append, List.nil_append]
    rw [e, eX0_slip_10]
    simp (disch := omega) only [eX0_slip_0, eX0_slip_1, eX0_slip_4, eX0_slip_7, eX0_slip_8, eX0_slip_9, eX0_slip_11, eX0_slip_12, eX0_slip_15, eX0_slip_16, eX0_slip_17, eX0_slip_20, eX0_slip_21, eX0_slip_22, eX0_slip_25, eX0_slip_26, eX0_slip_26x, eX0_slip_26y, eX0_slip_27, eX0_slip_30, eX0_slip_33, eX0_slip_34, eX0_slip_35, eX0_slip_38, eX0_slip_39, eX0_slip_39x, eX0_slip_39y, eX0_slip_40, eX0_slip_43, eX0_slip_46, eX0_slip_47, eX0_slip_50, eX0_slip_51, eX0_slip_52, eX0_slip_53, eX0_slip_56, eX0_slip_57, eX0_slip_57x, eX0_slip_57y, eX0_slip_58, eX0_slip_61, eX0_slip_62, eX0_slip_63, eX0_slip_66, eX0_slip_67, eX0_slip_68, eX0_slip_68x, eX0_slip_68y, eX0_slip_69, eX0_slip_70, eX0_slip_73, eX0_slip_76, eX0_slip_77, eX0_slip_80, eX0_slip_81, eX0_slip_82, eX0_slip_83, eX0_slip_86, eX0_slip_89, if_pos, if_neg, if_true, if_false, Option.bind_some, Option.toList_some, Option.toList_none, List.cons_append, List.nil_append]
theorem slip_inv (hr : RunR A) : RunR (mSlip A R) ∧ (mSlip A R 4 ≠ 0 → onS (mSlip A R) R) := by
  have r1 := RunR_slipW (r := R 0) (w := 0) (by omega) hr
  have r2 := RunR_slipW (r := R 1) (w := 1) (by omega) r1
  have r3 := RunR_slipW (r := R 2) (w := 2) (by omega) r2
  refine ⟨r3, ?_⟩
  have on1 : ∀ (A : Nat → Int) (r : Nat → Int) (w : Nat), w < 3 → RunR A → A 4 ≠ 0 → mSlipW A r w (20 + w) < 300 → 0 < r (mSlipW A r w (20 + w)).toNat := by
    intro A r w hw hr hb hl
    have h5 := hr.2.2.2.2 w hw
    unfold mSlipW at hl ⊢
    split at hl
    · next hc =>
      rw [if_pos hc]
      have hf := fst_spec r (k := (A (20 + w)).toNat) (by omega)
      have hl : (if 20 + w = 20 + w then (fst r (A (20 + w)).toNat : Int) else _) < 300 := hl
      rw [if_pos rfl] at hl
      show 0 < r ((if 20 + w = 20 + w then (fst r (A (20 + w)).toNat : Int) else _).toNat)
      rw [if_pos rfl, Int.toNat_natCast]
      exact hf.2.2.2 (by omega)
    · next hc =>
      rw [if_neg hc]
      by_cases z : 0 < r (A (20 + w)).toNat
      · exact z
      · exact absurd ⟨hb, by omega, z⟩ hc
  intro hb w hw
  unfold mSlip at hb ⊢
  have hb2 : mSlipW (mSlipW A (R 0) 0) (R 1) 1 4 ≠ 0 := by rw [mSlipW_k (by omega) (by omega)] at hb; exact hb
  have hb1 : mSlipW A (R 0) 0 4 ≠ 0 := by rw [mSlipW_k (by omega) (by omega)] at hb2; exact hb2
  have hb0 : A 4 ≠ 0 := by rw [mSlipW_k (by omega) (by omega)] at hb1; exact hb1
  rcases (show w = 0 ∨ w = 1 ∨ w = 2 by omega) with rfl | rfl | rfl
  · rw [mSlipW_k (k := 20 + 0) (by omega) (by omega), mSlipW_k (k := 20 + 0) (w := 1) (by omega) (by omega)]
    exact on1 A (R 0) 0 (by omega) hr hb0
  · rw [mSlipW_k (k := 20 + 1) (by omega) (by omega)]
    exact on1 _ (R 1) 1 (by omega) r1 hb1
  · exact on1 _ (R 2) 2 (by omega) r2 hb2
theorem mSlip_k {k : Nat} (h : k < 14 ∨ (17 ≤ k ∧ k < 20) ∨ 23 ≤ k) : mSlip A R k = A k := by
  unfold mSlip
  rw [mSlipW_k (by omega) (by omega), mSlipW_k (by omega) (by omega), mSlipW_k (by omega) (by omega)]
/-! figures -/
theorem s_sumOf {i : Nat} {x y z : Int} (hi : kd i = 10) (ha : alen i = 3) (h0 : S i 0 = x) (h1 : S i 1 = y) (h2 : S i 2 = z) : fX8_sumOf [vR i] S = some (some (vI (x + y + z)), S) := by
  rw [uX8_sumOf]
  simp (disch := omega) only [eX8_sumOf_0, eX8_sumOf_1, eX8_sumOf_2, eX8_sumOf_3, eX8_sumOf_4, eX8_sumOf_5, eX8_sumOf_5x, eX8_sumOf_5y, eX8_sumOf_6, eX8_sumOf_7, eX8_sumOf_8, eX8_sumOf_12, eX8_sumOf_13, eX8_sumOf_16, eX8_sumOf_17, eX8_sumOf_19, eX8_sumOf_19x, eX8_sumOf_19y, eX8_sumOf_20, eX8_sumOf_22, eX8_sumOf_23, eX8_sumOf_25, eX8_sumOf_26, eX8_sumOf_27, eX8_sumOf_30, eX8_sumOf_33, eX8_sumOf_34, if_pos, if_neg, if_true, if_false, Option.bind_some, Option.toList_some, Option.toList_none, List.cons_append, List.nil_append, ha]
  rw [eX8_sumOf_10]
  simp (disch := omega) only [eX8_sumOf_0, eX8_sumOf_1, eX8_sumOf_2, eX8_sumOf_3, eX8_sumOf_4, eX8_sumOf_5, eX8_sumOf_5x, eX8_sumOf_5y, eX8_sumOf_6, eX8_sumOf_7, eX8_sumOf_8, eX8_sumOf_12, eX8_sumOf_13, eX8_sumOf_16, eX8_sumOf_17, eX8_sumOf_19, eX8_sumOf_19x, eX8_sumOf_19y, eX8_sumOf_20, eX8_sumOf_22, eX8_sumOf_23, eX8_sumOf_25, eX8_sumOf_26, eX8_sumOf_27, eX8_sumOf_30, eX8_sumOf_33, eX8_sumOf_34, if_pos, if_neg, if_true, if_false, Option.bind_some, Option.toList_some, Option.toList_none, List.cons_append, List.nil_append, tn0, h0, ta1]
  rw [eX8_sumOf_10]
  simp (disch := omega) only [eX8_sumOf_0, eX8_sumOf_1, eX8_sumOf_2, eX8_sumOf_3, eX8_sumOf_4, eX8_sumOf_5, eX8_sumOf_5x, eX8_sumOf_5y, eX8_sumOf_6, eX8_sumOf_7, eX8_sumOf_8, eX8_sumOf_12, eX8_sumOf_13, eX8_sumOf_16, eX8_sumOf_17, eX8_sumOf_19, eX8_sumOf_19x, eX8_sumOf_19y, eX8_sumOf_20, eX8_sumOf_22, eX8_sumOf_23, eX8_sumOf_25, eX8_sumOf_26, eX8_sumOf_27, eX8_sumOf_30, eX8_sumOf_33, eX8_sumOf_34, if_pos, if_neg, if_true, if_false, Option.bind_some, Option.toList_some, Option.toList_none, List.cons_append, List.nil_append, tn1, h1, ta2]
  rw [eX8_sumOf_10]
  simp (disch := omega) only [eX8_sumOf_0, eX8_sumOf_1, eX8_sumOf_2, eX8_sumOf_3, eX8_sumOf_4, eX8_sumOf_5, eX8_sumOf_5x, eX8_sumOf_5y, eX8_sumOf_6, eX8_sumOf_7, eX8_sumOf_8, eX8_sumOf_12, eX8_sumOf_13, eX8_sumOf_16, eX8_sumOf_17, eX8_sumOf_19, eX8_sumOf_19x, eX8_sumOf_19y, eX8_sumOf_20, eX8_sumOf_22, eX8_sumOf_23, eX8_sumOf_25, eX8_sumOf_26, eX8_sumOf_27, eX8_sumOf_30, eX8_sumOf_33, eX8_sumOf_34, if_pos, if_neg, if_true, if_false, Option.bind_some, Option.toList_some, Option.toList_none, List.cons_append, List.nil_append, tn2, h2, ta3]
  rw [eX8_sumOf_10]
  simp (disch := omega) only [eX8_sumOf_0, eX8_sumOf_1, eX8_sumOf_2, eX8_sumOf_3, eX8_sumOf_4, eX8_sumOf_5, eX8_sumOf_5x, eX8_sumOf_5y, eX8_sumOf_6, eX8_sumOf_7, eX8_sumOf_8, eX8_sumOf_12, eX8_sumOf_13, eX8_sumOf_16, eX8_sumOf_17, eX8_sumOf_19, eX8_sumOf_19x, eX8_sumOf_19y, eX8_sumOf_20, eX8_sumOf_22, eX8_sumOf_23, eX8_sumOf_25, eX8_sumOf_26, eX8_sumOf_27, eX8_sumOf_30, eX8_sumOf_33, eX8_sumOf_34, if_pos, if_neg, if_true, if_false, Option.bind_some, Option.toList_some, Option.toList_none, List.cons_append, List.nil_append, Int.zero_add]
theorem s_crLeaps (hc : crs c) (h : CrossIs S c A) : fX0_leaps [vR c] S = some (some (vI (A 8 + A 9 + A 10)), S) := by
  obtain ⟨⟨k0, k1, k2, k3, k4, k5, k6, k7⟩, a1, a2, a3, a4, a5, a6, a7⟩ := id hc
  have t := h.2.2.2.2.2.1
  have e := s_sumOf (S := S) k4 a4 (t 0 (by omega)) (t 1 (by omega)) (t 2 (by omega))
  rw [uX0_leaps]
  simp (disch := omega) only [eX0_leaps_0, eX0_leaps_1, eX0_leaps_4, eX0_leaps_7, if_pos, if_neg, if_true, if_false, Option.bind_some, Option.toList_some, Option.toList_none, List.cons_append, List.nil_append, e]
theorem s_crLooks (hc : crs c) (h : CrossIs S c A) : fX0_looks [vR c] S = some (some (vI (A 11 + A 12 + A 13)), S) := by
  obtain ⟨⟨k0, k1, k2, k3, k4, k5, k6, k7⟩, a1, a2, a3, a4, a5, a6, a7⟩ := id hc
  have t := h.2.2.2.2.2.2.1
  have e := s_sumOf (S := S) k5 a5 (t 0 (by omega)) (t 1 (by omega)) (t 2 (by omega))
  rw [uX0_looks]
  simp (disch := omega) only [eX0_looks_0, eX0_looks_1, eX0_looks_4, eX0_looks_7, if_pos, if_neg, if_true, if_false, Option.bind_some, Option.toList_some, Option.toList_none, List.cons_append, List.nil_append, e]
theorem s_crMeetings (hc : crs c) (h : CrossIs S c A) : fX0_meetings [vR c] S = some (some (vI (cnt (MetA A) 300)), S) := by
  obtain ⟨⟨k0, -⟩, -⟩ := id hc
  have e := h.2.2.2.1.1
  rw [uX0_meetings]
  simp (disch := omega) only [eX0_meetings_0, eX0_meetings_1, eX0_meetings_4, if_pos, if_neg, if_true, if_false, Option.bind_some, Option.toList_some, Option.toList_none, List.cons_append, List.nil_append, e]
theorem s_keyOfMeeting {j : Int} (hc : crs c) (h : CrossIs S c A) (hj : rng j) : fX0_keyOfMeeting [vR c, vI j] S = some (some (vI (if 0 ≤ j ∧ j < cnt (MetA A) 300 then S (c + 1) j.toNat else -6)), S) := by
  obtain ⟨⟨k0, k1, k2, k3, k4, k5, k6, k7⟩, a1, a2, a3, a4, a5, a6, a7⟩ := id hc
  have e := h.2.2.2.1.1
  have hl := cnt_le (MetA A) 300
  have eb := s_isBetween (S := S) (a := j) (b := 0) (c := (cnt (MetA A) 300 : Int) - 1) hj ⟨by omega, by omega⟩ ⟨by omega, by omega⟩
  rw [uX0_keyOfMeeting]
  by_cases q : 0 ≤ j ∧ j < cnt (MetA A) 300
  · rw [if_pos (by omega)] at eb
    rw [if_pos q]
    simp (disch := omega) only [eX0_keyOfMeeting_0, eX0_keyOfMeeting_1, eX0_keyOfMeeting_2, eX0_keyOfMeeting_3, eX0_keyOfMeeting_6, eX0_keyOfMeeting_7, eX0_keyOfMeeting_8, eX0_keyOfMeeting_11, eX0_keyOfMeeting_14, eX0_keyOfMeeting_15, eX0_keyOfMeeting_18, eX0_keyOfMeeting_19, eX0_keyOfMeeting_19x, eX0_keyOfMeeting_19y, eX0_keyOfMeeting_20, eX0_keyOfMeeting_23, eX0_keyOfMeeting_25, if_pos, if_neg, if_true, if_false, Option.bind_some, Option.toList_some, Option.toList_none, List.cons_append, List.nil_append, e, eb]
  · rw [if_neg (by omega)] at eb
    rw [if_neg q]
    simp (disch := omega) only [eX0_keyOfMeeting_0, eX0_keyOfMeeting_1, eX0_keyOfMeeting_2, eX0_keyOfMeeting_3, eX0_keyOfMeeting_6, eX0_keyOfMeeting_7, eX0_keyOfMeeting_8, eX0_keyOfMeeting_11, eX0_keyOfMeeting_14, eX0_keyOfMeeting_15, eX0_keyOfMeeting_18, eX0_keyOfMeeting_19, eX0_keyOfMeeting_19x, eX0_keyOfMeeting_19y, eX0_keyOfMeeting_20, eX0_keyOfMeeting_23, eX0_keyOfMeeting_25, if_pos, if_neg, if_true, if_false, Option.bind_some, Option.toList_some, Option.toList_none, List.cons_append, List.nil_append, e, eb]
theorem s_rowsOfMeeting {j : Int} (hc : crs c) (h : CrossIs S c A) (hj : rng j) : fX0_rowsOfMeeting [vR c, vI j] S = some (some (vI (if 0 ≤ j ∧ j < cnt (MetA A) 300 then S (c + 2) j.toNat else 0)), S) := by
  obtain ⟨⟨k0, k1, k2, k3, k4, k5, k6, k7⟩, a1, a2, a3, a4, a5, a6, a7⟩ := id hc
  have e := h.2.2.2.1.1
  have hl := cnt_le (MetA A) 300
  have eb := s_isBetween (S := S) (a := j) (b := 0) (c := (cnt (MetA A) 300 : Int) - 1) hj ⟨by omega, by omega⟩ ⟨by omega, by omega⟩
  rw [uX0_rowsOfMeeting]
  by_cases q : 0 ≤ j ∧ j < cnt (MetA A) 300
  · rw [if_pos (by omega)] at eb
    rw [if_pos q]
    simp (disch := omega) only [eX0_rowsOfMeeting_0, eX0_rowsOfMeeting_1, eX0_rowsOfMeeting_2, eX0_rowsOfMeeting_3, eX0_rowsOfMeeting_6, eX0_rowsOfMeeting_7, eX0_rowsOfMeeting_8, eX0_rowsOfMeeting_11, eX0_rowsOfMeeting_14, eX0_rowsOfMeeting_15, eX0_rowsOfMeeting_18, eX0_rowsOfMeeting_19, eX0_rowsOfMeeting_19x, eX0_rowsOfMeeting_19y, eX0_rowsOfMeeting_20, eX0_rowsOfMeeting_23, eX0_rowsOfMeeting_24, if_pos, if_neg, if_true, if_false, Option.bind_some, Option.toList_some, Option.toList_none, List.cons_append, List.nil_append, e, eb]
  · rw [if_neg (by omega)] at eb
    rw [if_neg q]
    simp (disch := omega) only [eX0_rowsOfMeeting_0, eX0_rowsOfMeeting_1, eX0_rowsOfMeeting_2, eX0_rowsOfMeeting_3, eX0_rowsOfMeeting_6, eX0_rowsOfMeeting_7, eX0_rowsOfMeeting_8, eX0_rowsOfMeeting_11, eX0_rowsOfMeeting_14, eX0_rowsOfMeeting_15, eX0_rowsOfMeeting_18, eX0_rowsOfMeeting_19, eX0_rowsOfMeeting_19x, eX0_rowsOfMeeting_19y, eX0_rowsOfMeeting_20, eX0_rowsOfMeeting_23, eX0_rowsOfMeeting_24, if_pos, if_neg, if_true, if_false, Option.bind_some, Option.toList_some, Option.toList_none, List.cons_append, List.nil_append, e, eb]
theorem l_rowsTog (hc : crs c) (h : CrossIs S c A) (hr : RunR A) : ∀ (f i b : Nat), i + f = cnt (MetA A) 300 → cnt (MetA A) b = i → b ≤ 300 → rn xX0_rowsTogether (4, [some (vR c), some (vI (sumk (MetA A) b)), some (vI i)], [], S) = some (some (vI (sumk (MetA A) 300)), S) := by
  obtain ⟨⟨k0, -⟩, -⟩ := id hc
  have e := h.2.2.2.1.1
  have hl := cnt_le (MetA A) 300
  have hz : ∀ k, k < 300 → ¬ 0 < MetA A k → MetA A k = 0 := fun k hk q => by have := hr.2.2.1 k hk; omega
  intro f
  induction f with
  | zero =>
    intro i b e1 e2 e3
    have hs : sumk (MetA A) 300 = sumk (MetA A) b := sumk_skip e3 (fun j y1 y2 => hz j y2 (fun y3 => by
      have z1 := cnt_mono (MetA A) y1
      have z2 := cnt_lt y2 y3
      omega))
    rw [eX0_rowsTogether_4]
    simp (disch := omega) only [eX0_rowsTogether_0, eX0_rowsTogether_1, eX0_rowsTogether_2, eX0_rowsTogether_3, eX0_rowsTogether_5, eX0_rowsTogether_6, eX0_rowsTogether_9, eX0_rowsTogether_12, eX0_rowsTogether_13, eX0_rowsTogether_14, eX0_rowsTogether_15, eX0_rowsTogether_18, eX0_rowsTogether_19, eX0_rowsTogether_20, eX0_rowsTogether_23, eX0_rowsTogether_26, eX0_rowsTogether_27, if_pos, if_neg, if_true, if_false, Option.bind_some, Option.toList_some, Option.toList_none, List.cons_append, List.nil_append, e]
    rw [hs]
  | succ f ih =>
    intro i b e1 e2 e3
    obtain ⟨k, y1, y2, y3, y4, y5, y6⟩ := cnt_next e2 (by omega)
    have hs : sumk (MetA A) k = sumk (MetA A) b := sumk_skip y4 (fun j z1 z2 => hz j (by omega) (y5 j z1 z2))
    have ih := ih (i + 1) (k + 1) (by omega) y6 (by omega)
    rw [sumk, hs, show ((i + 1 : Nat) : Int) = (i : Int) + 1 by omega] at ih
    have er := s_rowsOfMeeting (S := S) (j := (i : Int)) hc h ⟨by omega, by omega⟩
    have ev := h.2.2.2.1.2.2 k y1 y2
    rw [y3] at ev
    rw [if_pos (by omega), Int.toNat_natCast, ev] at er
    rw [eX0_rowsTogether_4]
    simp (disch := omega) only [eX0_rowsTogether_0, eX0_rowsTogether_1, eX0_rowsTogether_2, eX0_rowsTogether_3, eX0_rowsTogether_5, eX0_rowsTogether_6, eX0_rowsTogether_9, eX0_rowsTogether_12, eX0_rowsTogether_13, eX0_rowsTogether_14, eX0_rowsTogether_15, eX0_rowsTogether_18, eX0_rowsTogether_19, eX0_rowsTogether_20, eX0_rowsTogether_23, eX0_rowsTogether_26, eX0_rowsTogether_27, if_pos, if_neg, if_true, if_false, Option.bind_some, Option.toList_some, Option.toList_none, List.cons_append, List.nil_append, e, er]
    exact ih
theorem s_rowsTogether (hc : crs c) (h : CrossIs S c A) (hr : RunR A) : fX0_rowsTogether [vR c] S = some (some (vI (sumk (MetA A) 300)), S) := by
  rw [uX0_rowsTogether]
  simp (disch := omega) only [eX0_rowsTogether_0, eX0_rowsTogether_1, eX0_rowsTogether_2, eX0_rowsTogether_3, eX0_rowsTogether_5, eX0_rowsTogether_6, eX0_rowsTogether_9, eX0_rowsTogether_12, eX0_rowsTogether_13, eX0_rowsTogether_14, eX0_rowsTogether_15, eX0_rowsTogether_18, eX0_rowsTogether_19, eX0_rowsTogether_20, eX0_rowsTogether_23, eX0_rowsTogether_26, eX0_rowsTogether_27, if_pos, if_neg, if_true, if_false, Option.bind_some, Option.toList_some, Option.toList_none, List.cons_append, List.nil_append]
  exact l_rowsTog hc h hr (cnt (MetA A) 300) 0 0 (by omega) rfl (by omega)
theorem s_isBegun2 (hc : crs c) (h : CrossIs S c A) : fX0_isBegun [vR c] S = some (some (vI (if A 4 = 0 then 0 else 1)), S) := by
  obtain ⟨⟨k0, -⟩, -⟩ := hc
  rw [uX0_isBegun]
  rcases h.1 with ⟨q1, q2, q3⟩ | ⟨q1, q2, q3⟩ | ⟨q1, q2, q3⟩
  · simp (disch := omega) only [eX0_isBegun_0, eX0_isBegun_1, eX0_isBegun_4, if_pos, if_neg, if_true, if_false, Option.bind_some, Option.toList_some, Option.toList_none, List.cons_append, List.nil_append, q2]
  · simp (disch := omega) only [eX0_isBegun_0, eX0_isBegun_1, eX0_isBegun_4, if_pos, if_neg, if_true, if_false, Option.bind_some, Option.toList_some, Option.toList_none, List.cons_append, List.nil_append, q2]
  · simp (disch := omega) only [eX0_isBegun_0, eX0_isBegun_1, eX0_isBegun_4, if_pos, if_neg, if_true, if_false, Option.bind_some, Option.toList_some, Option.toList_none, List.cons_append, List.nil_append, q2]
theorem s_isOver (hc : crs c) (h : CrossIs S c A) : fX0_isOver [vR c] S = some (some (vI (if A 4 = 2 then 1 else 0)), S) := by
  obtain ⟨⟨k0, -⟩, -⟩ := hc
  rw [uX0_isOver]
  rcases h.1 with ⟨q1, q2, q3⟩ | ⟨q1, q2, q3⟩ | ⟨q1, q2, q3⟩
  · simp (disch := omega) only [eX0_isOver_0, eX0_isOver_1, eX0_isOver_4, if_pos, if_neg, if_true, if_false, Option.bind_some, Option.toList_some, Option.toList_none, List.cons_append, List.nil_append, q3]
  · simp (disch := omega) only [eX0_isOver_0, eX0_isOver_1, eX0_isOver_4, if_pos, if_neg, if_true, if_false, Option.bind_some, Option.toList_some, Option.toList_none, List.cons_append, List.nil_append, q3]
  · simp (disch := omega) only [eX0_isOver_0, eX0_isOver_1, eX0_isOver_4, if_pos, if_neg, if_true, if_false, Option.bind_some, Option.toList_some, Option.toList_none, List.cons_append, List.nil_append, q3]
def figW (A : Nat → Int) (w : Nat) (what : Int) : Int := if A 4 = 0 then -6 else if what = 2 then (if A (20 + w) = 300 then -6 else A (20 + w)) else if what = 3 then A (8 + w) else if what = 4 then A (11 + w) else if what = 5 then A (14 + w) else if what = 6 then A (17 + w) else -6
theorem s_figureOfWalker {w what : Int} (hc : crs c) (h : CrossIs S c A) (hr : RunR A) (hw : 0 ≤ w ∧ w ≤ 2) (hx : 0 ≤ what ∧ what ≤ 6) : fX0_figureOfWalker [vR c, vI w, vI what] S = some (some (vI (figW A w.toNat what)), S) := by
  obtain ⟨⟨k0, k1, k2, k3, k4, k5, k6, k7⟩, a1, a2, a3, a4, a5, a6, a7⟩ := id hc
  have ew := s_isWalker (S := S) (w := w) ⟨by omega, by omega⟩
  rw [if_pos hw] at ew
  have t0 := h.2.2.2.2.1 w.toNat (by omega)
  have t1 := h.2.2.2.2.2.1 w.toNat (by omega)
  have t2 := h.2.2.2.2.2.2.1 w.toNat (by omega)
  have t3 := h.2.2.2.2.2.2.2.1 w.toNat (by omega)
  have t4 := h.2.2.2.2.2.2.2.2 w.toNat (by omega)
  have hb := (hr.2.2.2.2 w.toNat (by omega)).1
  unfold figW
  rw [uX0_figureOfWalker]
  by_cases q : A 4 = 0
  · have f0 : S c 0 = 0 := by rcases h.1 with y | y | y <;> omega
    rw [if_pos q]
    simp (disch := omega) only [eX0_figureOfWalker_0, eX0_figureOfWalker_1, eX0_figureOfWalker_4, eX0_figureOfWalker_7, eX0_figureOfWalker_8, eX0_figureOfWalker_11, eX0_figureOfWalker_14, eX0_figureOfWalker_16, eX0_figureOfWalker_17, eX0_figureOfWalker_18, eX0_figureOfWalker_52, eX0_figureOfWalker_53, eX0_figureOfWalker_56, eX0_figureOfWalker_57, eX0_figureOfWalker_57x, eX0_figureOfWalker_57y, eX0_figureOfWalker_58, eX0_figureOfWalker_61, eX0_figureOfWalker_64, eX0_figureOfWalker_66, eX0_figureOfWalker_69, eX0_figureOfWalker_70, eX0_figureOfWalker_73, eX0_figureOfWalker_74, eX0_figureOfWalker_74x, eX0_figureOfWalker_74y, eX0_figureOfWalker_75, eX0_figureOfWalker_76, eX0_figureOfWalker_77, eX0_figureOfWalker_80, eX0_figureOfWalker_81, eX0_figureOfWalker_81x, eX0_figureOfWalker_81y, eX0_figureOfWalker_82, eX0_figureOfWalker_83, eX0_figureOfWalker_84, eX0_figureOfWalker_87, eX0_figureOfWalker_88, eX0_figureOfWalker_88x, eX0_figureOfWalker_88y, eX0_figureOfWalker_89, eX0_figureOfWalker_90, eX0_figureOfWalker_91, eX0_figureOfWalker_94, eX0_figureOfWalker_95, eX0_figureOfWalker_95x, eX0_figureOfWalker_95y, eX0_figureOfWalker_96, eX0_figureOfWalker_97, eX0_figureOfWalker_98, eX0_figureOfWalker_101, eX0_figureOfWalker_102, eX0_figureOfWalker_102x, eX0_figureOfWalker_102y, eX0_figureOfWalker_103, eX0_figureOfWalker_104, eX0_figureOfWalker_106, if_pos, if_neg, if_true, if_false, Option.bind_some, Option.toList_some, Option.toList_none, List.cons_append, List.nil_append, f0]
  · have f0 : S c 0 = 1 := by rcases h.1 with y | y | y <;> omega
    rw [if_neg q]
    rcases (show what = 0 ∨ what = 1 ∨ what = 2 ∨ what = 3 ∨ what = 4 ∨ what = 5 ∨ what = 6 by omega) with rfl | rfl | rfl | rfl | rfl | rfl | rfl
    · simp (disch := omega) only [eX0_figureOfWalker_0, eX0_figureOfWalker_1, eX0_figureOfWalker_4, eX0_figureOfWalker_7, eX0_figureOfWalker_8, eX0_figureOfWalker_11, eX0_figureOfWalker_14, eX0_figureOfWalker_16, eX0_figureOfWalker_17, eX0_figureOfWalker_18, eX0_figureOfWalker_52, eX0_figureOfWalker_53, eX0_figureOfWalker_56, eX0_figureOfWalker_57, eX0_figureOfWalker_57x, eX0_figureOfWalker_57y, eX0_figureOfWalker_58, eX0_figureOfWalker_61, eX0_figureOfWalker_64, eX0_figureOfWalker_66, eX0_figureOfWalker_69, eX0_figureOfWalker_70, eX0_figureOfWalker_73, eX0_figureOfWalker_74, eX0_figureOfWalker_74x, eX0_figureOfWalker_74y, eX0_figureOfWalker_75, eX0_figureOfWalker_76, eX0_figureOfWalker_77, eX0_figureOfWalker_80, eX0_figureOfWalker_81, eX0_figureOfWalker_81x, eX0_figureOfWalker_81y, eX0_figureOfWalker_82, eX0_figureOfWalker_83, eX0_figureOfWalker_84, eX0_figureOfWalker_87, eX0_figureOfWalker_88, eX0_figureOfWalker_88x, eX0_figureOfWalker_88y, eX0_figureOfWalker_89, eX0_figureOfWalker_90, eX0_figureOfWalker_91, eX0_figureOfWalker_94, eX0_figureOfWalker_95, eX0_figureOfWalker_95x, eX0_figureOfWalker_95y, eX0_figureOfWalker_96, eX0_figureOfWalker_97, eX0_figureOfWalker_98, eX0_figureOfWalker_101, eX0_figureOfWalker_102, eX0_figureOfWalker_102x, eX0_figureOfWalker_102y, eX0_figureOfWalker_103, eX0_figureOfWalker_104, eX0_figureOfWalker_106, if_pos, if_neg, if_true, if_false, Option.bind_some, Option.toList_some, Option.toList_none, List.cons_append, List.nil_append, f0, ew]
    · simp (disch := omega) only [eX0_figureOfWalker_0, eX0_figureOfWalker_1, eX0_figureOfWalker_4, eX0_figureOfWalker_7, eX0_figureOfWalker_8, eX0_figureOfWalker_11, eX0_figureOfWalker_14, eX0_figureOfWalker_16, eX0_figureOfWalker_17, eX0_figureOfWalker_18, eX0_figureOfWalker_52, eX0_figureOfWalker_53, eX0_figureOfWalker_56, eX0_figureOfWalker_57, eX0_figureOfWalker_57x, eX0_figureOfWalker_57y, eX0_figureOfWalker_58, eX0_figureOfWalker_61, eX0_figureOfWalker_64, eX0_figureOfWalker_66, eX0_figureOfWalker_69, eX0_figureOfWalker_70, eX0_figureOfWalker_73, eX0_figureOfWalker_74, eX0_figureOfWalker_74x, eX0_figureOfWalker_74y, eX0_figureOfWalker_75, eX0_figureOfWalker_76, eX0_figureOfWalker_77, eX0_figureOfWalker_80, eX0_figureOfWalker_81, eX0_figureOfWalker_81x, eX0_figureOfWalker_81y, eX0_figureOfWalker_82, eX0_figureOfWalker_83, eX0_figureOfWalker_84, eX0_figureOfWalker_87, eX0_figureOfWalker_88, eX0_figureOfWalker_88x, eX0_figureOfWalker_88y, eX0_figureOfWalker_89, eX0_figureOfWalker_90, eX0_figureOfWalker_91, eX0_figureOfWalker_94, eX0_figureOfWalker_95, eX0_figureOfWalker_95x, eX0_figureOfWalker_95y, eX0_figureOfWalker_96, eX0_figureOfWalker_97, eX0_figureOfWalker_98, eX0_figureOfWalker_101, eX0_figureOfWalker_102, eX0_figureOfWalker_102x, eX0_figureOfWalker_102y, eX0_figureOfWalker_103, eX0_figureOfWalker_104, eX0_figureOfWalker_106, if_pos, if_neg, if_true, if_false, Option.bind_some, Option.toList_some, Option.toList_none, List.cons_append, List.nil_append, f0, ew]
    · by_cases z : A (20 + w.toNat) = 300
      · simp (disch := omega) only [eX0_figureOfWalker_0, eX0_figureOfWalker_1, eX0_figureOfWalker_4, eX0_figureOfWalker_7, eX0_figureOfWalker_8, eX0_figureOfWalker_11, eX0_figureOfWalker_14, eX0_figureOfWalker_16, eX0_figureOfWalker_17, eX0_figureOfWalker_18, eX0_figureOfWalker_52, eX0_figureOfWalker_53, eX0_figureOfWalker_56, eX0_figureOfWalker_57, eX0_figureOfWalker_57x, eX0_figureOfWalker_57y, eX0_figureOfWalker_58, eX0_figureOfWalker_61, eX0_figureOfWalker_64, eX0_figureOfWalker_66, eX0_figureOfWalker_69, eX0_figureOfWalker_70, eX0_figureOfWalker_73, eX0_figureOfWalker_74, eX0_figureOfWalker_74x, eX0_figureOfWalker_74y, eX0_figureOfWalker_75, eX0_figureOfWalker_76, eX0_figureOfWalker_77, eX0_figureOfWalker_80, eX0_figureOfWalker_81, eX0_figureOfWalker_81x, eX0_figureOfWalker_81y, eX0_figureOfWalker_82, eX0_figureOfWalker_83, eX0_figureOfWalker_84, eX0_figureOfWalker_87, eX0_figureOfWalker_88, eX0_figureOfWalker_88x, eX0_figureOfWalker_88y, eX0_figureOfWalker_89, eX0_figureOfWalker_90, eX0_figureOfWalker_91, eX0_figureOfWalker_94, eX0_figureOfWalker_95, eX0_figureOfWalker_95x, eX0_figureOfWalker_95y, eX0_figureOfWalker_96, eX0_figureOfWalker_97, eX0_figureOfWalker_98, eX0_figureOfWalker_101, eX0_figureOfWalker_102, eX0_figureOfWalker_102x, eX0_figureOfWalker_102y, eX0_figureOfWalker_103, eX0_figureOfWalker_104, eX0_figureOfWalker_106, if_pos, if_neg, if_true, if_false, Option.bind_some, Option.toList_some, Option.toList_none, List.cons_append, List.nil_append, f0, ew, t0]
      · simp (disch := omega) only [eX0_figureOfWalker_0, eX0_figureOfWalker_1, eX0_figureOfWalker_4, eX0_figureOfWalker_7, eX0_figureOfWalker_8, eX0_figureOfWalker_11, eX0_figureOfWalker_14, eX0_figureOfWalker_16, eX0_figureOfWalker_17, eX0_figureOfWalker_18, eX0_figureOfWalker_52, eX0_figureOfWalker_53, eX0_figureOfWalker_56, eX0_figureOfWalker_57, eX0_figureOfWalker_57x, eX0_figureOfWalker_57y, eX0_figureOfWalker_58, eX0_figureOfWalker_61, eX0_figureOfWalker_64, eX0_figureOfWalker_66, eX0_figureOfWalker_69, eX0_figureOfWalker_70, eX0_figureOfWalker_73, eX0_figureOfWalker_74, eX0_figureOfWalker_74x, eX0_figureOfWalker_74y, eX0_figureOfWalker_75, eX0_figureOfWalker_76, eX0_figureOfWalker_77, eX0_figureOfWalker_80, eX0_figureOfWalker_81, eX0_figureOfWalker_81x, eX0_figureOfWalker_81y, eX0_figureOfWalker_82, eX0_figureOfWalker_83, eX0_figureOfWalker_84, eX0_figureOfWalker_87, eX0_figureOfWalker_88, eX0_figureOfWalker_88x, eX0_figureOfWalker_88y, eX0_figureOfWalker_89, eX0_figureOfWalker_90, eX0_figureOfWalker_91, eX0_figureOfWalker_94, eX0_figureOfWalker_95, eX0_figureOfWalker_95x, eX0_figureOfWalker_95y, eX0_figureOfWalker_96, eX0_figureOfWalker_97, eX0_figureOfWalker_98, eX0_figureOfWalker_101, eX0_figureOfWalker_102, eX0_figureOfWalker_102x, eX0_figureOfWalker_102y, eX0_figureOfWalker_103, eX0_figureOfWalker_104, eX0_figureOfWalker_106, if_pos, if_neg, if_true, if_false, Option.bind_some, Option.toList_some, Option.toList_none, List.cons_append, List.nil_append, f0, ew, t0]
    · simp (disch := omega) only [eX0_figureOfWalker_0, eX0_figureOfWalker_1, eX0_figureOfWalker_4, eX0_figureOfWalker_7, eX0_figureOfWalker_8, eX0_figureOfWalker_11, eX0_figureOfWalker_14, eX0_figureOfWalker_16, eX0_figureOfWalker_17, eX0_figureOfWalker_18, eX0_figureOfWalker_52, eX0_figureOfWalker_53, eX0_figureOfWalker_56, eX0_figureOfWalker_57, eX0_figureOfWalker_57x, eX0_figureOfWalker_57y, eX0_figureOfWalker_58, eX0_figureOfWalker_61, eX0_figureOfWalker_64, eX0_figureOfWalker_66, eX0_figureOfWalker_69, eX0_figureOfWalker_70, eX0_figureOfWalker_73, eX0_figureOfWalker_74, eX0_figureOfWalker_74x, eX0_figureOfWalker_74y, eX0_figureOfWalker_75, eX0_figureOfWalker_76, eX0_figureOfWalker_77, eX0_figureOfWalker_80, eX0_figureOfWalker_81, eX0_figureOfWalker_81x, eX0_figureOfWalker_81y, eX0_figureOfWalker_82, eX0_figureOfWalker_83, eX0_figureOfWalker_84, eX0_figureOfWalker_87, eX0_figureOfWalker_88, eX0_figureOfWalker_88x, eX0_figureOfWalker_88y, eX0_figureOfWalker_89, eX0_figureOfWalker_90, eX0_figureOfWalker_91, eX0_figureOfWalker_94, eX0_figureOfWalker_95, eX0_figureOfWalker_95x, eX0_figureOfWalker_95y, eX0_figureOfWalker_96, eX0_figureOfWalker_97, eX0_figureOfWalker_98, eX0_figureOfWalker_101, eX0_figureOfWalker_102, eX0_figureOfWalker_102x, eX0_figureOfWalker_102y, eX0_figureOfWalker_103, eX0_figureOfWalker_104, eX0_figureOfWalker_106, if_pos, if_neg, if_true, if_false, Option.bind_some, Option.toList_some, Option.toList_none, List.cons_append, List.nil_append, f0, ew, t1]
    · simp (disch := omega) only [eX0_figureOfWalker_0, eX0_figureOfWalker_1, eX0_figureOfWalker_4, eX0_figureOfWalker_7, eX0_figureOfWalker_8, eX0_figureOfWalker_11, eX0_figureOfWalker_14, eX0_figureOfWalker_16, eX0_figureOfWalker_17, eX0_figureOfWalker_18, eX0_figureOfWalker_52, eX0_figureOfWalker_53, eX0_figureOfWalker_56, eX0_figureOfWalker_57, eX0_figureOfWalker_57x, eX0_figureOfWalker_57y, eX0_figureOfWalker_58, eX0_figureOfWalker_61, eX0_figureOfWalker_64, eX0_figureOfWalker_66, eX0_figureOfWalker_69, eX0_figureOfWalker_70, eX0_figureOfWalker_73, eX0_figureOfWalker_74, eX0_figureOfWalker_74x, eX0_figureOfWalker_74y, eX0_figureOfWalker_75, eX0_figureOfWalker_76, eX0_figureOfWalker_77, eX0_figureOfWalker_80, eX0_figureOfWalker_81, eX0_figureOfWalker_81x, eX0_figureOfWalker_81y, eX0_figureOfWalker_82, eX0_figureOfWalker_83, eX0_figureOfWalker_84, eX0_figureOfWalker_87, eX0_figureOfWalker_88, eX0_figureOfWalker_88x, eX0_figureOfWalker_88y, eX0_figureOfWalker_89, eX0_figureOfWalker_90, eX0_figureOfWalker_91, eX0_figureOfWalker_94, eX0_figureOfWalker_95, eX0_figureOfWalker_95x, eX0_figureOfWalker_95y, eX0_figureOfWalker_96, eX0_figureOfWalker_97, eX0_figureOfWalker_98, eX0_figureOfWalker_101, eX0_figureOfWalker_102, eX0_figureOfWalker_102x, eX0_figureOfWalker_102y, eX0_figureOfWalker_103, eX0_figureOfWalker_104, eX0_figureOfWalker_106, if_pos, if_neg, if_true, if_false, Option.bind_some, Option.toList_some, Option.toList_none, List.cons_append, List.nil_append, f0, ew, t2]
    · simp (disch := omega) only [eX0_figureOfWalker_0, eX0_figureOfWalker_1, eX0_figureOfWalker_4, eX0_figureOfWalker_7, eX0_figureOfWalker_8, eX0_figureOfWalker_11, eX0_figureOfWalker_14, eX0_figureOfWalker_16, eX0_figureOfWalker_17, eX0_figureOfWalker_18, eX0_figureOfWalker_52, eX0_figureOfWalker_53, eX0_figureOfWalker_56, eX0_figureOfWalker_57, eX0_figureOfWalker_57x, eX0_figureOfWalker_57y, eX0_figureOfWalker_58, eX0_figureOfWalker_61, eX0_figureOfWalker_64, eX0_figureOfWalker_66, eX0_figureOfWalker_69, eX0_figureOfWalker_70, eX0_figureOfWalker_73, eX0_figureOfWalker_74, eX0_figureOfWalker_74x, eX0_figureOfWalker_74y, eX0_figureOfWalker_75, eX0_figureOfWalker_76, eX0_figureOfWalker_77, eX0_figureOfWalker_80, eX0_figureOfWalker_81, eX0_figureOfWalker_81x, eX0_figureOfWalker_81y, eX0_figureOfWalker_82, eX0_figureOfWalker_83, eX0_figureOfWalker_84, eX0_figureOfWalker_87, eX0_figureOfWalker_88, eX0_figureOfWalker_88x, eX0_figureOfWalker_88y, eX0_figureOfWalker_89, eX0_figureOfWalker_90, eX0_figureOfWalker_91, eX0_figureOfWalker_94, eX0_figureOfWalker_95, eX0_figureOfWalker_95x, eX0_figureOfWalker_95y, eX0_figureOfWalker_96, eX0_figureOfWalker_97, eX0_figureOfWalker_98, eX0_figureOfWalker_101, eX0_figureOfWalker_102, eX0_figureOfWalker_102x, eX0_figureOfWalker_102y, eX0_figureOfWalker_103, eX0_figureOfWalker_104, eX0_figureOfWalker_106, if_pos, if_neg, if_true, if_false, Option.bind_some, Option.toList_some, Option.toList_none, List.cons_append, List.nil_append, f0, ew, t3]
    · simp (disch := omega) only [eX0_figureOfWalker_0, eX0_figureOfWalker_1, eX0_figureOfWalker_4, eX0_figureOfWalker_7, eX0_figureOfWalker_8, eX0_figureOfWalker_11, eX0_figureOfWalker_14, eX0_figureOfWalker_16, eX0_figureOfWalker_17, eX0_figureOfWalker_18, eX0_figureOfWalker_52, eX0_figureOfWalker_53, eX0_figureOfWalker_56, eX0_figureOfWalker_57, eX0_figureOfWalker_57x, eX0_figureOfWalker_57y, eX0_figureOfWalker_58, eX0_figureOfWalker_61, eX0_figureOfWalker_64, eX0_figureOfWalker_66, eX0_figureOfWalker_69, eX0_figureOfWalker_70, eX0_figureOfWalker_73, eX0_figureOfWalker_74, eX0_figureOfWalker_74x, eX0_figureOfWalker_74y, eX0_figureOfWalker_75, eX0_figureOfWalker_76, eX0_figureOfWalker_77, eX0_figureOfWalker_80, eX0_figureOfWalker_81, eX0_figureOfWalker_81x, eX0_figureOfWalker_81y, eX0_figureOfWalker_82, eX0_figureOfWalker_83, eX0_figureOfWalker_84, eX0_figureOfWalker_87, eX0_figureOfWalker_88, eX0_figureOfWalker_88x, eX0_figureOfWalker_88y, eX0_figureOfWalker_89, eX0_figureOfWalker_90, eX0_figureOfWalker_91, eX0_figureOfWalker_94, eX0_figureOfWalker_95, eX0_figureOfWalker_95x, eX0_figureOfWalker_95y, eX0_figureOfWalker_96, eX0_figureOfWalker_97, eX0_figureOfWalker_98, eX0_figureOfWalker_101, eX0_figureOfWalker_102, eX0_figureOfWalker_102x, eX0_figureOfWalker_102y, eX0_figureOfWalker_103, eX0_figureOfWalker_104, eX0_figureOfWalker_106, if_pos, if_neg, if_true, if_false, Option.bind_some, Option.toList_some, Option.toList_none, List.cons_append, List.nil_append, f0, ew, t4]
def figR (A : Nat → Int) (what : Int) : Int := if A 4 = 0 then -6 else if what = 0 then A 4 - 1 else if what = 1 then A 5 else if what = 2 then A 6 else if what = 3 then (cnt (MetA A) 300 : Int) else if what = 4 then sumk (MetA A) 300 else if what = 5 then A 8 + A 9 + A 10 else if what = 6 then A 11 + A 12 + A 13 else A 14 + A 15 + A 16
theorem s_figure {what : Int} (hc : crs c) (h : CrossIs S c A) (hr : RunR A) (hx : 0 ≤ what ∧ what ≤ 7) : fX0_figure [vR c, vI what] S = some (some (vI (figR A what)), S) := by
  obtain ⟨⟨k0, k1, k2, k3, k4, k5, k6, k7⟩, a1, a2, a3, a4, a5, a6, a7⟩ := id hc
  have t1 := h.2.2.2.2.2.1
  have t2 := h.2.2.2.2.2.2.1
  have t3 := h.2.2.2.2.2.2.2.1
  have e1 := s_sumOf (S := S) k4 a4 (t1 0 (by omega)) (t1 1 (by omega)) (t1 2 (by omega))
  have e2 := s_sumOf (S := S) k5 a5 (t2 0 (by omega)) (t2 1 (by omega)) (t2 2 (by omega))
  have e3 := s_sumOf (S := S) k6 a6 (t3 0 (by omega)) (t3 1 (by omega)) (t3 2 (by omega))
  have e4 := s_rowsTogether hc h hr
  have g1 := h.2.1
  have g2 := h.2.2.1
  have g3 := h.2.2.2.1.1
  unfold figR
  rw [uX0_figure]
  by_cases q : A 4 = 0
  · have f0 : S c 0 = 0 := by rcases h.1 with y | y | y <;> omega
    rw [if_pos q]
    simp (disch := omega) only [eX0_figure_0, eX0_figure_1, eX0_figure_4, eX0_figure_7, eX0_figure_9, eX0_figure_10, eX0_figure_11, eX0_figure_56, eX0_figure_57, eX0_figure_60, eX0_figure_63, eX0_figure_64, eX0_figure_67, eX0_figure_68, eX0_figure_69, eX0_figure_70, eX0_figure_73, eX0_figure_74, eX0_figure_75, eX0_figure_78, eX0_figure_79, eX0_figure_80, eX0_figure_83, eX0_figure_84, eX0_figure_85, eX0_figure_88, eX0_figure_89, eX0_figure_90, eX0_figure_93, eX0_figure_96, eX0_figure_97, eX0_figure_98, eX0_figure_101, eX0_figure_104, eX0_figure_105, eX0_figure_106, eX0_figure_109, eX0_figure_112, eX0_figure_113, eX0_figure_115, if_pos, if_neg, if_true, if_false, Option.bind_some, Option.toList_some, Option.toList_none, List.cons_append, List.nil_append, f0]
  · have f0 : S c 0 = 1 := by rcases h.1 with y | y | y <;> omega
    rw [if_neg q]
    rcases (show what = 0 ∨ what = 1 ∨ what = 2 ∨ what = 3 ∨ what = 4 ∨ what = 5 ∨ what = 6 ∨ what = 7 by omega) with rfl | rfl | rfl | rfl | rfl | rfl | rfl | rfl
    · rcases h.1 with y | y | y
      · omega
      · simp (disch := omega) only [eX0_figure_0, eX0_figure_1, eX0_figure_4, eX0_figure_7, eX0_figure_9, eX0_figure_10, eX0_figure_11, eX0_figure_56, eX0_figure_57, eX0_figure_60, eX0_figure_63, eX0_figure_64, eX0_figure_67, eX0_figure_68, eX0_figure_69, eX0_figure_70, eX0_figure_73, eX0_figure_74, eX0_figure_75, eX0_figure_78, eX0_figure_79, eX0_figure_80, eX0_figure_83, eX0_figure_84, eX0_figure_85, eX0_figure_88, eX0_figure_89, eX0_figure_90, eX0_figure_93, eX0_figure_96, eX0_figure_97, eX0_figure_98, eX0_figure_101, eX0_figure_104, eX0_figure_105, eX0_figure_106, eX0_figure_109, eX0_figure_112, eX0_figure_113, eX0_figure_115, if_pos, if_neg, if_true, if_false, Option.bind_some, Option.toList_some, Option.toList_none, List.cons_append, List.nil_append, f0]
        rw [y.1]
        rfl
      · simp (disch := omega) only [eX0_figure_0, eX0_figure_1, eX0_figure_4, eX0_figure_7, eX0_figure_9, eX0_figure_10, eX0_figure_11, eX0_figure_56, eX0_figure_57, eX0_figure_60, eX0_figure_63, eX0_figure_64, eX0_figure_67, eX0_figure_68, eX0_figure_69, eX0_figure_70, eX0_figure_73, eX0_figure_74, eX0_figure_75, eX0_figure_78, eX0_figure_79, eX0_figure_80, eX0_figure_83, eX0_figure_84, eX0_figure_85, eX0_figure_88, eX0_figure_89, eX0_figure_90, eX0_figure_93, eX0_figure_96, eX0_figure_97, eX0_figure_98, eX0_figure_101, eX0_figure_104, eX0_figure_105, eX0_figure_106, eX0_figure_109, eX0_figure_112, eX0_figure_113, eX0_figure_115, if_pos, if_neg, if_true, if_false, Option.bind_some, Option.toList_some, Option.toList_none, List.cons_append, List.nil_append, f0]
        rw [y.1]
        rfl
    · simp (disch := omega) only [eX0_figure_0, eX0_figure_1, eX0_figure_4, eX0_figure_7, eX0_figure_9, eX0_figure_10, eX0_figure_11, eX0_figure_56, eX0_figure_57, eX0_figure_60, eX0_figure_63, eX0_figure_64, eX0_figure_67, eX0_figure_68, eX0_figure_69, eX0_figure_70, eX0_figure_73, eX0_figure_74, eX0_figure_75, eX0_figure_78, eX0_figure_79, eX0_figure_80, eX0_figure_83, eX0_figure_84, eX0_figure_85, eX0_figure_88, eX0_figure_89, eX0_figure_90, eX0_figure_93, eX0_figure_96, eX0_figure_97, eX0_figure_98, eX0_figure_101, eX0_figure_104, eX0_figure_105, eX0_figure_106, eX0_figure_109, eX0_figure_112, eX0_figure_113, eX0_figure_115, if_pos, if_neg, if_true, if_false, Option.bind_some, Option.toList_some, Option.toList_none, List.cons_append, List.nil_append, f0, g1]
    · simp (disch := omega) only [eX0_figure_0, eX0_figure_1, eX0_figure_4, eX0_figure_7, eX0_figure_9, eX0_figure_10, eX0_figure_11, eX0_figure_56, eX0_figure_57, eX0_figure_60, eX0_figure_63, eX0_figure_64, eX0_figure_67, eX0_figure_68, eX0_figure_69, eX0_figure_70, eX0_figure_73, eX0_figure_74, eX0_figure_75, eX0_figure_78, eX0_figure_79, eX0_figure_80, eX0_figure_83, eX0_figure_84, eX0_figure_85, eX0_figure_88, eX0_figure_89, eX0_figure_90, eX0_figure_93, eX0_figure_96, eX0_figure_97, eX0_figure_98, eX0_figure_101, eX0_figure_104, eX0_figure_105, eX0_figure_106, eX0_figure_109, eX0_figure_112, eX0_figure_113, eX0_figure_115, if_pos, if_neg, if_true, if_false, Option.bind_some, Option.toList_some, Option.toList_none, List.cons_append, List.nil_append, f0, g2]
    · simp (disch := omega) only [eX0_figure_0, eX0_figure_1, eX0_figure_4, eX0_figure_7, eX0_figure_9, eX0_figure_10, eX0_figure_11, eX0_figure_56, eX0_figure_57, eX0_figure_60, eX0_figure_63, eX0_figure_64, eX0_figure_67, eX0_figure_68, eX0_figure_69, eX0_figure_70, eX0_figure_73, eX0_figure_74, eX0_figure_75, eX0_figure_78, eX0_figure_79, eX0_figure_80, eX0_figure_83, eX0_figure_84, eX0_figure_85, eX0_figure_88, eX0_figure_89, eX0_figure_90, eX0_figure_93, eX0_figure_96, eX0_figure_97, eX0_figure_98, eX0_figure_101, eX0_figure_104, eX0_figure_105, eX0_figure_106, eX0_figure_109, eX0_figure_112, eX0_figure_113, eX0_figure_115, if_pos, if_neg, if_true, if_false, Option.bind_some, Option.toList_some, Option.toList_none, List.cons_append, List.nil_append, f0, g3]
    · simp (disch := omega) only [eX0_figure_0, eX0_figure_1, eX0_figure_4, eX0_figure_7, eX0_figure_9, eX0_figure_10, eX0_figure_11, eX0_figure_56, eX0_figure_57, eX0_figure_60, eX0_figure_63, eX0_figure_64, eX0_figure_67, eX0_figure_68, eX0_figure_69, eX0_figure_70, eX0_figure_73, eX0_figure_74, eX0_figure_75, eX0_figure_78, eX0_figure_79, eX0_figure_80, eX0_figure_83, eX0_figure_84, eX0_figure_85, eX0_figure_88, eX0_figure_89, eX0_figure_90, eX0_figure_93, eX0_figure_96, eX0_figure_97, eX0_figure_98, eX0_figure_101, eX0_figure_104, eX0_figure_105, eX0_figure_106, eX0_figure_109, eX0_figure_112, eX0_figure_113, eX0_figure_115, if_pos, if_neg, if_true, if_false, Option.bind_some, Option.toList_some, Option.toList_none, List.cons_append, List.nil_append, f0, e4]
    · simp (disch := omega) only [eX0_figure_0, eX0_figure_1, eX0_figure_4, eX0_figure_7, eX0_figure_9, eX0_figure_10, eX0_figure_11, eX0_figure_56, eX0_figure_57, eX0_figure_60, eX0_figure_63, eX0_figure_64, eX0_figure_67, eX0_figure_68, eX0_figure_69, eX0_figure_70, eX0_figure_73, eX0_figure_74, eX0_figure_75, eX0_figure_78, eX0_figure_79, eX0_figure_80, eX0_figure_83, eX0_figure_84, eX0_figure_85, eX0_figure_88, eX0_figure_89, eX0_figure_90, eX0_figure_93, eX0_figure_96, eX0_figure_97, eX0_figure_98, eX0_figure_101, eX0_figure_104, eX0_figure_105, eX0_figure_106, eX0_figure_109, eX0_figure_112, eX0_figure_113, eX0_figure_115, if_pos, if_neg, if_true, if_false, Option.bind_some, Option.toList_some, Option.toList_none, List.cons_append, List.nil_append, f0, e1]
    · simp (disch := omega) only [eX0_figure_0, eX0_figure_1, eX0_figure_4, eX0_figure_7, eX0_figure_9, eX0_figure_10, eX0_figure_11, eX0_figure_56, eX0_figure_57, eX0_figure_60, eX0_figure_63, eX0_figure_64, eX0_figure_67, eX0_figure_68, eX0_figure_69, eX0_figure_70, eX0_figure_73, eX0_figure_74, eX0_figure_75, eX0_figure_78, eX0_figure_79, eX0_figure_80, eX0_figure_83, eX0_figure_84, eX0_figure_85, eX0_figure_88, eX0_figure_89, eX0_figure_90, eX0_figure_93, eX0_figure_96, eX0_figure_97, eX0_figure_98, eX0_figure_101, eX0_figure_104, eX0_figure_105, eX0_figure_106, eX0_figure_109, eX0_figure_112, eX0_figure_113, eX0_figure_115, if_pos, if_neg, if_true, if_false, Option.bind_some, Option.toList_some, Option.toList_none, List.cons_append, List.nil_append, f0, e2]
    · simp (disch := omega) only [eX0_figure_0, eX0_figure_1, eX0_figure_4, eX0_figure_7, eX0_figure_9, eX0_figure_10, eX0_figure_11, eX0_figure_56, eX0_figure_57, eX0_figure_60, eX0_figure_63, eX0_figure_64, eX0_figure_67, eX0_figure_68, eX0_figure_69, eX0_figure_70, eX0_figure_73, eX0_figure_74, eX0_figure_75, eX0_figure_78, eX0_figure_79, eX0_figure_80, eX0_figure_83, eX0_figure_84, eX0_figure_85, eX0_figure_88, eX0_figure_89, eX0_figure_90, eX0_figure_93, eX0_figure_96, eX0_figure_97, eX0_figure_98, eX0_figure_101, eX0_figure_104, eX0_figure_105, eX0_figure_106, eX0_figure_109, eX0_figure_112, eX0_figure_113, eX0_figure_115, if_pos, if_neg, if_true, if_false, Option.bind_some, Option.toList_some, Option.toList_none, List.cons_append, List.nil_append, f0, e3]
end FIN
