/-! taking away and giving back -/
section FL2
variable {S : MM} {s : Nat} {A : Nat → Int} {w a b : Int}
theorem l_take2 (hs : scnF s) {q : Nat} (hq : riv q) (hsq : s + 15 < q) {u : Nat} (hu : u < 3) (hP : RiverIs S (s + 3) (fun x => if x < u then nR A w a b x else RA A x)) (hQ : RiverIs S q (fun x => if x < u then nT A w a b x else fun _ => 0)) (ha : 0 ≤ a ∧ a ≤ 299) (hb : 0 ≤ b ∧ b ≤ 299) (hw : w = -6 ∨ (0 ≤ w ∧ w ≤ 2)) : ∃ S', rn xX6_takeAway (19, [some (vR s), some (vI w), some (vI a), some (vI b), some (vR q), some (vI u)], [], S) = rn xX6_takeAway (19, [some (vR s), some (vI w), some (vI a), some (vI b), some (vR q), some (vI (u + 1))], [], S') ∧ RiverIs S' (s + 3) (fun x => if x < u + 1 then nR A w a b x else RA A x) ∧ RiverIs S' q (fun x => if x < u + 1 then nT A w a b x else fun _ => 0) ∧ (∀ c, (c ≤ s + 3 ∨ s + 13 ≤ c) → (c ≤ q ∨ q + 10 ≤ c) → S' c = S c) := by
  have hne : ¬ u < u := by omega
  obtain ⟨T, f1, f2, f3, f4⟩ := l_take hs hq hsq hu hP hQ (by simp only [if_neg hne]; exact cnt_zero (fun _ _ => rfl)) ha hb hw
  refine ⟨T, f1, f2.congr (fun x k hx hk => ?_), f3.congr (fun x k hx hk => ?_), f4⟩
  · simp only [if_neg hne]
    by_cases y : x = u
    · rw [if_pos (by omega), if_pos y, y]
      rfl
    · rw [if_neg y]
      by_cases y2 : x < u
      · rw [if_pos (by omega), if_pos y2]
      · rw [if_neg (by omega), if_neg y2]
  · simp only [if_neg hne]
    by_cases y : x = u
    · rw [if_pos (by omega), if_pos y, y]
      rfl
    · rw [if_neg y]
      by_cases y2 : x < u
      · rw [if_pos (by omega), if_pos y2]
      · rw [if_neg (by omega), if_neg y2]
theorem mFl_7 (h : 0 ≤ A 7 ∧ A 7 ≤ 4) : mFl A w a b 7 = (fl0 A : Int) + 1 := by
  unfold mFl
  rw [if_pos rfl]
theorem s_takeAway (hs : scnF s) (h : SceneIs S s A) (ha : 0 ≤ a ∧ a ≤ 299) (hb : a ≤ b ∧ b ≤ 299) (hw : w = -6 ∨ (0 ≤ w ∧ w ≤ 2)) : ∃ S', fX6_takeAway [vR s, vI w, vI a, vI b] S = some (some (vI ((cnt (nT A w a b 0) 300 : Int) + cnt (nT A w a b 1) 300 + cnt (nT A w a b 2) 300)), S') ∧ SceneIs S' s (mTake A w a b) ∧ (∀ c, c < s ∨ s + 64 ≤ c → S' c = S c) := by
  obtain ⟨k0, ht, hv, hd, hc⟩ := id hs
  obtain ⟨c0, -⟩ := id hc.1
  obtain ⟨t0, -⟩ := id ht
  obtain ⟨v0, -⟩ := id hv
  obtain ⟨d0, -⟩ := id hd
  obtain ⟨h1, h2, h3, hF, h5, h6, h7, h8⟩ := id h
  obtain ⟨T1, q, e1, hq4, F1, z1, hq, f1⟩ := s_addEmpty hd hF
  have hm1 : (if (A 7).toNat < 4 then (A 7).toNat + 1 else 4) = fl0 A + 1 := by
    unfold fl0
    by_cases y : A 7 < 4
    · rw [if_pos y, if_pos (by omega)]
    · rw [if_neg y, if_neg (by omega)]
  rw [hm1] at F1 hq
  have hrq := hd.2.2.2.2 q hq4
  obtain ⟨r0, -⟩ := id hrq
  have hP0 : RiverIs T1 (s + 3) (fun x => if x < 0 then nR A w a b x else RA A x) := (h3.rows (fun c y1 y2 => f1 c (by omega))).congr (fun x k hx hk => by rw [if_neg (by omega)])
  have hQ0 : RiverIs T1 (s + 13 + 3 + 10 * q) (fun x => if x < 0 then nT A w a b x else fun _ => 0) := ⟨PathIs.zero z1.1, PathIs.zero z1.2.1, PathIs.zero z1.2.2⟩
  obtain ⟨T2, e2, hP1, hQ1, f2⟩ := l_take2 hs hrq (by omega) (u := 0) (by omega) hP0 hQ0 ha (by omega) hw
  obtain ⟨T3, e3, hP2, hQ2, f3⟩ := l_take2 hs hrq (by omega) (u := 1) (by omega) hP1 hQ1 ha (by omega) hw
  obtain ⟨T4, e4, hP3, hQ3, f4⟩ := l_take2 hs hrq (by omega) (u := 2) (by omega) hP2 hQ2 ha (by omega) hw
  have hP4 : RiverIs T4 (s + 3) (RA (mFl A w a b)) := hP3.congr (fun x k hx hk => by rw [mFl_R hx hk, if_pos (by omega)])
  have hQ4 : RiverIs T4 (s + 13 + 3 + 10 * q) (nT A w a b) := hQ3.congr (fun x k hx hk => by rw [if_pos (by omega)])
  have fT : ∀ c, (c ≤ s + 3 ∨ s + 13 ≤ c) → (c ≤ s + 13 + 3 + 10 * q ∨ s + 13 + 3 + 10 * q + 10 ≤ c) → T4 c = T1 c := fun c y1 y2 => by rw [f4 c y1 y2, f3 c y1 y2, f2 c y1 y2]
  have F4 := F1.last (by omega) hq hQ4 (fun c y1 y2 y3 => fT c (by omega) (by omega))
  have hC4 : CrossIs T4 (s + 56) (mFl A w a b) := (h6.rows (fun c y1 y2 => by rw [fT c (by omega) (by omega), f1 c (by omega)])).congr (fun k y1 y2 y3 => mFl_lo (by omega) (by omega)) (fun k y1 y2 => mFl_mt (by omega) (by omega))
  have hr4 : RunR (mFl A w a b) := h7.congr (fun k y1 y2 y3 => mFl_lo (by omega) (by omega)) (fun k y1 y2 => mFl_mt (by omega) (by omega))
  obtain ⟨T5, e5, hC5, f5⟩ := s_slip hc hv (by omega) hP4 hC4 hr4
  obtain ⟨hr5, hon5⟩ := slip_inv (R := RA (mFl A w a b)) hr4
  have a1 : mSlip (mFl A w a b) (RA (mFl A w a b)) 1 = A 1 := by rw [mSlip_k (by omega), mFl_lo (by omega) (by omega)]
  have a4 : mSlip (mFl A w a b) (RA (mFl A w a b)) 4 = A 4 := by rw [mSlip_k (by omega), mFl_lo (by omega) (by omega)]
  have hP5 := hP4.rows (S' := T5) (fun c y1 y2 => f5 c (by omega))
  have hb1 : 0 ≤ mSlip (mFl A w a b) (RA (mFl A w a b)) 1 ∧ mSlip (mFl A w a b) (RA (mFl A w a b)) 1 ≤ 299 := by rw [a1]; exact h2.2.1
  obtain ⟨T6, e6, hC6, f6⟩ := s_lookRound hc hv (by omega) hC5 hr5 hP5 hb1 (fun y => hon5 (by omega))
  have hr6 := RunR_look (R := RA (mFl A w a b)) hr5 hb1 hP5.rb
  have hs6 := RunS_look (R := RA (mFl A w a b)) hr5 hb1 (by rw [a4]; exact h8.1) hon5
  rw [a1] at e6
  have hk : ∀ k, (k < 4 ∨ k = 7 ∨ (25 ≤ k ∧ k < 925) ∨ 1225 ≤ k) → mTake A w a b k = mFl A w a b k := fun k hk => by
    unfold mTake
    rw [mLook_ne (by omega) (by omega) (by omega) (Or.inr (Or.inr hb1.2)), mSlip_k (by omega)]
  have hval := s_valueOf (S := T5) (j := 1) ht (by omega)
  rw [tn1, f5 _ (by omega), fT _ (by omega) (by omega), f1 _ (by omega), h1 1 (by omega)] at hval
  have hst := s_stones hrq (hQ4.rows (S' := T6) (fun c y1 y2 => by rw [f6 c (by omega), f5 c (by omega)]))
  have eRA : ∀ u k, u < 3 → k < 300 → RA (mTake A w a b) u k = RA (mFl A w a b) u k := fun u k hu hk2 => hk _ (by omega)
  refine ⟨T6, ?_, ⟨fun j hj => ?_, ?_, ?_, ?_, ?_, hC6, hr6, ?_⟩, fun c hc2 => by rw [f6 c (by omega), f5 c (by omega), fT c (by omega) (by omega), f1 c (by omega)]⟩
  · rw [uX6_takeAway]
    simp (disch := omega) only [eX6_takeAway_0, eX6_takeAway_1, eX6_takeAway_4, eX6_takeAway_7, eX6_takeAway_9, eX6_takeAway_11n, eX6_takeAway_11r, eX6_takeAway_14, eX6_takeAway_15, eX6_takeAway_16, eX6_takeAway_17, eX6_takeAway_21, eX6_takeAway_22, eX6_takeAway_25, eX6_takeAway_26, eX6_takeAway_28, eX6_takeAway_31, eX6_takeAway_32, eX6_takeAway_34, eX6_takeAway_37, eX6_takeAway_38, eX6_takeAway_41, eX6_takeAway_43, eX6_takeAway_46, eX6_takeAway_48, eX6_takeAway_50, eX6_takeAway_53, eX6_takeAway_54, eX6_takeAway_55, eX6_takeAway_58, eX6_takeAway_61, eX6_takeAway_64, eX6_takeAway_65, eX6_takeAway_68, eX6_takeAway_69, eX6_takeAway_72, eX6_takeAway_75, eX6_takeAway_76, eX6_takeAway_79, eX6_takeAway_80, eX6_takeAway_83, eX6_takeAway_84, eX6_takeAway_87, eX6_takeAway_88, eX6_takeAway_91, eX6_takeAway_94, eX6_takeAway_96, eX6_takeAway_99, if_pos, if_neg, if_true, if_false, Option.bind_some, Option.toList_some, Option.toList_none, List.cons_append, List.nil_append, e1]
    have e := e2.trans (e3.trans e4)
    rw [show ((0 : Nat) : Int) = 0 from rfl, show ((2 : Nat) : Int) + 1 = 3 from rfl] at e
    rw [e, eX6_takeAway_19]
    simp (disch := omega) only [eX6_takeAway_0, eX6_takeAway_1, eX6_takeAway_4, eX6_takeAway_7, eX6_takeAway_9, eX6_takeAway_11n, eX6_takeAway_11r, eX6_takeAway_14, eX6_takeAway_15, eX6_takeAway_16, eX6_takeAway_17, eX6_takeAway_21, eX6_takeAway_22, eX6_takeAway_25, eX6_takeAway_26, eX6_takeAway_28, eX6_takeAway_31, eX6_takeAway_32, eX6_takeAway_34, eX6_takeAway_37, eX6_takeAway_38, eX6_takeAway_41, eX6_takeAway_43, eX6_takeAway_46, eX6_takeAway_48, eX6_takeAway_50, eX6_takeAway_53, eX6_takeAway_54, eX6_takeAway_55, eX6_takeAway_58, eX6_takeAway_61, eX6_takeAway_64, eX6_takeAway_65, eX6_takeAway_68, eX6_takeAway_69, eX6_takeAway_72, eX6_takeAway_75, eX6_takeAway_76, eX6_takeAway_79, eX6_takeAway_80, eX6_takeAway_83, eX6_takeAway_84, eX6_takeAway_87, eX6_takeAway_88, eX6_takeAway_91, eX6_takeAway_94, eX6_takeAway_96, eX6_takeAway_99, if_pos, if_neg, if_true, if_false, Option.bind_some, Option.toList_some, Option.toList_none, List.cons_append, List.nil_append, e5, hval, e6, hst]
  · rw [f6 _ (by omega), f5 _ (by omega), fT _ (by omega) (by omega), f1 _ (by omega), hk j (by omega), mFl_lo (by omega) (by omega)]
    exact h1 j hj
  · unfold StgR
    rw [hk 0 (by omega), hk 1 (by omega), hk 2 (by omega), hk 3 (by omega), mFl_lo (k := 0) (by omega) (by omega), mFl_lo (k := 1) (by omega) (by omega), mFl_lo (k := 2) (by omega) (by omega), mFl_lo (k := 3) (by omega) (by omega)]
    exact h2
  · exact (hP5.rows (fun c y1 y2 => f6 c (by omega))).congr eRA
  · rw [hk 7 (by omega), mFl_7 h5, show ((fl0 A : Int) + 1).toNat = fl0 A + 1 by omega]
    refine (F4.rows (fun c y1 y2 => by rw [f6 c (by omega), f5 c (by omega)])).congr (fun j u k hj hu hk2 => ?_)
    show mTake A w a b (1225 + 900 * j + 300 * u + k) = _
    rw [hk _ (by omega)]
    show TA (mFl A w a b) j u k = _
    rw [Nat.add_sub_cancel]
    by_cases y : j = fl0 A
    · rw [y, mFl_N hu hk2, if_pos rfl]
    · rw [mFl_T (by omega) hu hk2, if_neg y]
      by_cases y2 : A 7 < 4
      · have : fl0 A = (A 7).toNat := by unfold fl0; rw [if_pos y2]
        rw [if_pos y2, if_pos (by omega), if_pos (by omega)]
      · have : fl0 A = 3 := by unfold fl0; rw [if_neg y2]
        rw [if_neg y2, if_neg (by omega), if_pos (by omega)]
  · rw [hk 7 (by omega), mFl_7 h5]
    unfold fl0
    split <;> omega
  · exact RunS_mono hs6 hr6 (fun k _ => rfl) (fun u k hu hk2 hp => by rw [eRA u k hu hk2]; exact hp)
end FL2
