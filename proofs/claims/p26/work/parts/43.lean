/-! a leap, in one piece; a run that nothing disturbs -/
section LAW3
variable {A : Nat → Int} {R : Nat → Nat → Int}
/-- the key to which the next one leaps -/
def lpK (A : Nat → Int) (R : Nat → Nat → Int) : Nat := fst (R (nxtW A).toNat) (A 5).toNat
/-- rows of plain walking, key by key -/
abbrev wk (A : Nat → Int) (R : Nat → Nat → Int) : Nat → Int := rwB R (A 0) (A 1)
theorem lpK_s (hA : StgR A) (hr : RunR A) : (A 5).toNat ≤ lpK A R ∧ lpK A R ≤ 300 ∧ (∀ j, (A 5).toNat ≤ j → j < lpK A R → ¬ 0 < R (nxtW A).toNat j) ∧ (lpK A R < 300 → 0 < R (nxtW A).toNat (lpK A R)) := fst_spec _ (by have := hr.1; omega)
/-- behind a leap, before looking round -/
abbrev lpW (A : Nat → Int) (R : Nat → Nat → Int) : Nat → Int := mLeapW A (R (nxtW A).toNat) (nxtW A).toNat
theorem lp_gr (hA : StgR A) (hr : RunR A) (hI : Iv A) (h4 : A 4 = 1) : gr3 (lpW A R 20) (lpW A R 21) (lpW A R 22) = (lpK A R : Int) := by
  have hn := nxtW_b A
  have hk := lpK_s (R := R) hA hr
  obtain ⟨i0, i1, i2⟩ := hI.2 h4
  have b5 := hr.1
  have e0 := mLeapW_20 (A := A) (r := R (nxtW A).toNat) (w := (nxtW A).toNat) (u := 0) (by omega) (by omega)
  have e1 := mLeapW_20 (A := A) (r := R (nxtW A).toNat) (w := (nxtW A).toNat) (u := 1) (by omega) (by omega)
  have e2 := mLeapW_20 (A := A) (r := R (nxtW A).toNat) (w := (nxtW A).toNat) (u := 2) (by omega) (by omega)
  simp only [Nat.add_zero, Nat.reduceAdd] at e0 e1 e2
  have g := gr3_s (lpW A R 20) (lpW A R 21) (lpW A R 22)
  have ek : (fst (R (nxtW A).toNat) (A 5).toNat : Int) = (lpK A R : Int) := rfl
  rw [ek] at e0 e1 e2
  rcases (show (nxtW A).toNat = 0 ∨ (nxtW A).toNat = 1 ∨ (nxtW A).toNat = 2 by omega) with q | q | q
  · rw [q] at e0 e1 e2
    rw [if_pos rfl] at e0
    rw [if_neg (by omega)] at e1 e2
    simp only [lpW, q] at g ⊢
    omega
  · rw [q] at e0 e1 e2
    rw [if_pos rfl] at e1
    rw [if_neg (by omega)] at e0 e2
    simp only [lpW, q] at g ⊢
    omega
  · rw [q] at e0 e1 e2
    rw [if_pos rfl] at e2
    rw [if_neg (by omega)] at e0 e1
    simp only [lpW, q] at g ⊢
    omega
theorem lp_k {k : Nat} (h : k < 6 ∨ k = 7 ∨ 23 ≤ k) : lpW A R k = A k := mLeapW_k (by have := nxtW_b A; omega) (by omega)
theorem leap_eq (hA : StgR A) (hr : RunR A) (hI : Iv A) (h4 : A 4 = 1) : mLeap A R =
    if A 1 < (lpK A R : Int) then up (lpW A R) 4 2
    else if lpW A R 20 = lpW A R 21 ∧ lpW A R 20 = lpW A R 22 then up (up (lpW A R) (925 + lpK A R) (rwR R (lpK A R))) 5 (lpK A R + 1)
    else up (lpW A R) 5 (lpK A R) := by
  have hg := lp_gr (R := R) hA hr hI h4
  have hk := lpK_s (R := R) hA hr
  have b5 := hr.1
  have g := gr3_s (lpW A R 20) (lpW A R 21) (lpW A R 22)
  have e4 : lpW A R 4 = A 4 := lp_k (by omega)
  have e1 : lpW A R 1 = A 1 := lp_k (by omega)
  have e5 : lpW A R 5 = A 5 := lp_k (by omega)
  show mLook (lpW A R) R = _
  unfold mLook
  rw [e4, if_pos h4, hg, e1, e5]
  by_cases q : A 1 < (lpK A R : Int)
  · rw [if_pos q, if_pos q]
  · rw [if_neg q, if_neg q]
    by_cases q2 : lpW A R 20 = lpW A R 21 ∧ lpW A R 20 = lpW A R 22
    · have ek : lpW A R 20 = (lpK A R : Int) := by omega
      rw [if_pos ⟨q2, by omega⟩, if_pos q2, ek, Int.toNat_natCast]
    · rw [if_neg (fun z => q2 z.1), if_neg q2]
      by_cases q3 : A 5 < (lpK A R : Int)
      · rw [if_pos q3]
      · rw [if_neg q3]
        funext k
        rw [up_at]
        split
        next hk5 => rw [hk5, e5]; omega
        next => rfl
/-- what has been met: all that plain walking meets short of the goal -/
def Cv (A : Nat → Int) (R : Nat → Nat → Int) : Prop := A 0 ≤ A 5 ∧ ∀ k : Nat, k < 300 → MetA A k = if (k : Int) < A 5 then wk A R k else 0
def Fin (A : Nat → Int) (R : Nat → Nat → Int) : Prop := ∀ k : Nat, k < 300 → MetA A k = wk A R k
theorem rwR_z (hR : RB R) {w k : Nat} (hw : w < 3) (hk : k < 300) (h : ¬ 0 < R w k) : rwR R (k : Int) = 0 := by
  have h0 := hR 0 k (by omega) hk
  have h1 := hR 1 k (by omega) hk
  have h2 := hR 2 k (by omega) hk
  unfold rwR
  rw [rv_in hk, rv_in hk, rv_in hk]
  rcases (show w = 0 ∨ w = 1 ∨ w = 2 by omega) with rfl | rfl | rfl
  · rw [show R 0 k = 0 by omega, Int.zero_mul, Int.zero_mul]
  · rw [show R 1 k = 0 by omega, Int.mul_zero, Int.zero_mul]
  · rw [show R 2 k = 0 by omega, Int.mul_zero]
theorem wk_z (hR : RB R) {w k : Nat} (hw : w < 3) (hk : k < 300) (h : ¬ 0 < R w k) : wk A R k = 0 := by
  show (if A 0 ≤ (k : Int) ∧ (k : Int) ≤ A 1 then rwR R k else 0) = 0
  rw [rwR_z hR hw hk h]
  split <;> rfl
theorem wk_out {k : Nat} (h : ¬ (A 0 ≤ (k : Int) ∧ (k : Int) ≤ A 1)) : wk A R k = 0 := if_neg h
theorem wk_in {k : Nat} (h : A 0 ≤ (k : Int) ∧ (k : Int) ≤ A 1) : wk A R k = rwR R k := if_pos h
theorem wk_row {A' : Nat → Int} (h0 : A' 0 = A 0) (h1 : A' 1 = A 1) : wk A' R = wk A R := by
  show rwB R (A' 0) (A' 1) = _
  rw [h0, h1]
theorem leap_cv (hA : StgR A) (hr : RunR A) (hI : Iv A) (hR : RB R) (h4 : A 4 = 1) (hC : Cv A R) : (mLeap A R 4 = 1 → Cv (mLeap A R) R) ∧ (mLeap A R 4 ≠ 1 → Fin (mLeap A R) R) ∧ mLeap A R 4 ≠ 0 := by
  have hn := nxtW_b A
  obtain ⟨k1, k2, k3, k4⟩ := lpK_s (R := R) hA hr
  have b5 := hr.1
  have hle := leap_eq (R := R) hA hr hI h4
  have hz : ∀ k : Nat, A 5 ≤ (k : Int) → k < lpK A R → wk A R k = 0 := fun k q1 q2 => wk_z hR (w := (nxtW A).toNat) (by omega) (by omega) (k3 k (by omega) q2)
  have e4 : lpW A R 4 = A 4 := lp_k (by omega)
  have eM : ∀ k, MetA (lpW A R) k = MetA A k := fun k => lp_k (by omega)
  have e0 : mLeap A R 0 = A 0 := mLeap_lo hr hA.2.1.2 (by omega)
  have e1 : mLeap A R 1 = A 1 := mLeap_lo hr hA.2.1.2 (by omega)
  have ew := wk_row (R := R) e0 e1
  unfold Cv Fin
  rw [e0, ew]
  by_cases q : A 1 < (lpK A R : Int)
  · rw [if_pos q] at hle
    rw [hle]
    refine ⟨fun z => by rw [up_eq] at z; omega, fun _ k hk => ?_, by rw [up_eq]; decide⟩
    rw [MetA_up (by omega), eM, hC.2 k hk]
    by_cases q2 : (k : Int) < A 5
    · rw [if_pos q2]
    · rw [if_neg q2]
      by_cases q3 : (k : Int) ≤ A 1
      · exact (hz k (by omega) (by omega)).symm
      · exact (wk_out (by omega)).symm
  · rw [if_neg q] at hle
    have hA1 := hA.2.1
    by_cases q2 : lpW A R 20 = lpW A R 21 ∧ lpW A R 20 = lpW A R 22
    · rw [if_pos q2] at hle
      rw [hle]
      refine ⟨fun _ => ⟨by rw [up_eq]; have := hC.1; omega, fun k hk => ?_⟩, fun z => absurd (by rw [up_ne (by omega), up_ne (by omega), e4]; exact h4) z, by rw [up_ne (by omega), up_ne (by omega), e4]; omega⟩
      rw [MetA_up (by omega), up_eq]
      have ek : MetA (up (lpW A R) (925 + lpK A R) (rwR R (lpK A R))) k = if k = lpK A R then rwR R (lpK A R) else MetA A k := by
        show (if 925 + k = 925 + lpK A R then rwR R (lpK A R) else lpW A R (925 + k)) = _
        by_cases z : k = lpK A R
        · rw [if_pos (by omega), if_pos z]
        · rw [if_neg (by omega), if_neg z]
          exact eM k
      rw [ek]
      by_cases z : k = lpK A R
      · rw [if_pos z, if_pos (by omega), z]
        exact (wk_in (by have := hC.1; omega)).symm
      · rw [if_neg z, hC.2 k hk]
        by_cases q3 : (k : Int) < A 5
        · rw [if_pos q3, if_pos (by omega)]
        · rw [if_neg q3]
          by_cases q4 : (k : Int) < (lpK A R : Int) + 1
          · rw [if_pos q4]
            exact (hz k (by omega) (by omega)).symm
          · rw [if_neg q4]
    · rw [if_neg q2] at hle
      rw [hle]
      refine ⟨fun _ => ⟨by rw [up_eq]; have := hC.1; omega, fun k hk => ?_⟩, fun z => absurd (by rw [up_ne (by omega), e4]; exact h4) z, by rw [up_ne (by omega), e4]; omega⟩
      rw [MetA_up (by omega), up_eq, eM, hC.2 k hk]
      by_cases q3 : (k : Int) < A 5
      · rw [if_pos q3, if_pos (by omega)]
      · rw [if_neg q3]
        by_cases q4 : (k : Int) < (lpK A R : Int)
        · rw [if_pos q4]
          exact (hz k (by omega) (by omega)).symm
        · rw [if_neg q4]
theorem leap_sum (hA : StgR A) (hr : RunR A) : mLeap A R 8 + mLeap A R 9 + mLeap A R 10 = A 8 + A 9 + A 10 + 1 := by
  have hn := nxtW_b A
  have e : ∀ u : Nat, u < 3 → mLeap A R (8 + u) = if u = (nxtW A).toNat then A (8 + u) + 1 else A (8 + u) := fun u hu => by
    have h1 : mLeap A R (8 + u) = lpW A R (8 + u) := mLook_ne (by omega) (by omega) (by omega) (Or.inr (Or.inr (by rw [show mLeapW A (R (nxtW A).toNat) (nxtW A).toNat 1 = A 1 from lp_k (by omega)]; exact hA.2.1.2)))
    rw [h1]
    exact mLeapW_8 (by omega) hu
  have e0 := e 0 (by omega)
  have e1 := e 1 (by omega)
  have e2 := e 2 (by omega)
  simp only [Nat.add_zero, Nat.reduceAdd] at e0 e1 e2
  rw [e0, e1, e2]
  rcases (show (nxtW A).toNat = 0 ∨ (nxtW A).toNat = 1 ∨ (nxtW A).toNat = 2 by omega) with q | q | q
  · rw [q, if_pos rfl, if_neg (by omega), if_neg (by omega)]
    omega
  · rw [q, if_neg (by omega), if_pos rfl, if_neg (by omega)]
    omega
  · rw [q, if_neg (by omega), if_neg (by omega), if_pos rfl]
    omega
theorem run_all (hR : RB R) : ∀ (f : Nat) (A : Nat → Int), StgR A → RunR A → RunS A R → Iv A → A 4 ≠ 0 → pot A < f → ((mRunF f A R).1 4 = 2 ∧ (mRunF f A R).1 8 + (mRunF f A R).1 9 + (mRunF f A R).1 10 = A 8 + A 9 + A 10 + (mRunF f A R).2) ∧ ((A 4 = 1 → Cv A R) → (A 4 ≠ 1 → Fin A R) → Fin (mRunF f A R).1 R) := by
  intro f
  induction f with
  | zero =>
    intro A hA hr hs hI h0 hp
    have := (pot_b hr).1
    omega
  | succ f ih =>
    intro A hA hr hs hI h0 hp
    rw [mRunF]
    by_cases h4 : A 4 = 1
    · rw [if_pos h4]
      have hl := leap_inv hA hr hs hR h4
      have hpl := pot_leap hA hr hs h4
      have hn := nxtW_b A
      have hsh := nxtW_short hA hs h4
      have e4 : lpW A R 4 = A 4 := lp_k (by omega)
      have hI' : Iv (mLeap A R) := Iv_look (RunR_leapW (by omega) hr hsh) (by rw [show mLeapW A (R (nxtW A).toNat) (nxtW A).toNat 4 = A 4 from e4]; omega)
      have hne : mLeap A R 4 ≠ 0 := by
        show mLook (lpW A R) R 4 ≠ 0
        rw [mLook_4, e4]
        split <;> omega
      obtain ⟨⟨i1, i2⟩, i3⟩ := ih (mLeap A R) (hA.leap hr) hl.1 hl.2 hI' hne (by omega)
      have hsum := leap_sum (R := R) hA hr
      refine ⟨⟨i1, by dsimp only; omega⟩, fun hC hF => ?_⟩
      have hc := leap_cv hA hr hI hR h4 (hC h4)
      exact i3 hc.1 hc.2.1
    · rw [if_neg h4]
      have := hs.1
      exact ⟨⟨by show A 4 = 2; omega, by show A 8 + A 9 + A 10 = A 8 + A 9 + A 10 + 0; omega⟩, fun _ hF => hF h4⟩
theorem run_pot {A : Nat → Int} (hr : RunR A) : pot A < 1000 := by
  have := pot_b hr
  omega
/-- the beginning -/
theorem beg_eq (hA : StgR A) (hR : RB R) : mLook (mBeg A R) R =
    if A 1 < gr3 (mBeg A R 20) (mBeg A R 21) (mBeg A R 22) then up (mBeg A R) 4 2
    else if mBeg A R 20 = mBeg A R 21 ∧ mBeg A R 20 = mBeg A R 22 then up (up (mBeg A R) (925 + (mBeg A R 20).toNat) (rwR R (mBeg A R 20))) 5 (mBeg A R 20 + 1)
    else up (mBeg A R) 5 (gr3 (mBeg A R 20) (mBeg A R 21) (mBeg A R 22)) := by
  have h0 := hA.1
  have f0 := fst_spec (R 0) (k := (A 0).toNat) (by omega)
  have f1 := fst_spec (R 1) (k := (A 0).toNat) (by omega)
  have f2 := fst_spec (R 2) (k := (A 0).toNat) (by omega)
  have e20 : mBeg A R 20 = (fst (R 0) (A 0).toNat : Int) := mBeg_w (w := 0) (by omega)
  have e21 : mBeg A R 21 = (fst (R 1) (A 0).toNat : Int) := mBeg_w (w := 1) (by omega)
  have e22 : mBeg A R 22 = (fst (R 2) (A 0).toNat : Int) := mBeg_w (w := 2) (by omega)
  have g := gr3_s (mBeg A R 20) (mBeg A R 21) (mBeg A R 22)
  have e1 : mBeg A R 1 = A 1 := mBeg_k (by omega)
  have e5 : mBeg A R 5 = A 0 := rfl
  unfold mLook
  rw [if_pos (show mBeg A R 4 = 1 from rfl), e1, e5]
  split
  · rfl
  next q =>
    by_cases q2 : mBeg A R 20 = mBeg A R 21 ∧ mBeg A R 20 = mBeg A R 22
    · rw [if_pos ⟨q2, by omega⟩, if_pos q2]
    · rw [if_neg (fun z => q2 z.1), if_neg q2]
      by_cases q3 : A 0 < gr3 (mBeg A R 20) (mBeg A R 21) (mBeg A R 22)
      · rw [if_pos q3]
      · rw [if_neg q3]
        funext k
        rw [up_at]
        split
        next hk5 => rw [hk5, e5]; omega
        next => rfl
theorem beg_cv (hA : StgR A) (hR : RB R) : (mLook (mBeg A R) R 4 = 1 → Cv (mLook (mBeg A R) R) R) ∧ (mLook (mBeg A R) R 4 ≠ 1 → Fin (mLook (mBeg A R) R) R) ∧ mLook (mBeg A R) R 4 ≠ 0 := by
  have h0 := hA.1
  have h1 := hA.2.1
  have fs : ∀ w : Nat, w < 3 → (A 0).toNat ≤ fst (R w) (A 0).toNat ∧ fst (R w) (A 0).toNat ≤ 300 ∧ ∀ j, (A 0).toNat ≤ j → j < fst (R w) (A 0).toNat → ¬ 0 < R w j := fun w _ => by
    obtain ⟨a, b, c, -⟩ := fst_spec (R w) (k := (A 0).toNat) (by omega)
    exact ⟨a, b, c⟩
  have f0 := fs 0 (by omega)
  have f1 := fs 1 (by omega)
  have f2 := fs 2 (by omega)
  have e20 : mBeg A R 20 = (fst (R 0) (A 0).toNat : Int) := mBeg_w (w := 0) (by omega)
  have e21 : mBeg A R 21 = (fst (R 1) (A 0).toNat : Int) := mBeg_w (w := 1) (by omega)
  have e22 : mBeg A R 22 = (fst (R 2) (A 0).toNat : Int) := mBeg_w (w := 2) (by omega)
  have g := gr3_s (mBeg A R 20) (mBeg A R 21) (mBeg A R 22)
  have hz : ∀ k : Nat, k < 300 → A 0 ≤ (k : Int) → (k : Int) < gr3 (mBeg A R 20) (mBeg A R 21) (mBeg A R 22) → wk A R k = 0 := by
    intro k hk q1 q2
    rcases g.2.2.2 with q | q | q
    · exact wk_z hR (w := 0) (by omega) hk (f0.2.2 k (by omega) (by omega))
    · exact wk_z hR (w := 1) (by omega) hk (f1.2.2 k (by omega) (by omega))
    · exact wk_z hR (w := 2) (by omega) hk (f2.2.2 k (by omega) (by omega))
  have hbe := beg_eq (R := R) hA hR
  have a0 : mLook (mBeg A R) R 0 = A 0 := (mLook_ne (by omega) (by omega) (by omega) (Or.inr (Or.inr (by rw [mBeg_k (by omega)]; exact h1.2)))).trans (mBeg_k (by omega))
  have a1 : mLook (mBeg A R) R 1 = A 1 := (mLook_ne (by omega) (by omega) (by omega) (Or.inr (Or.inr (by rw [mBeg_k (by omega)]; exact h1.2)))).trans (mBeg_k (by omega))
  have ew := wk_row (R := R) a0 a1
  have e4 : mBeg A R 4 = 1 := rfl
  unfold Cv Fin
  rw [a0, ew]
  by_cases q : A 1 < gr3 (mBeg A R 20) (mBeg A R 21) (mBeg A R 22)
  · rw [if_pos q] at hbe
    rw [hbe]
    refine ⟨fun z => by rw [up_eq] at z; omega, fun _ k hk => ?_, by rw [up_eq]; decide⟩
    rw [MetA_up (by omega), mBeg_M hk]
    by_cases q3 : A 0 ≤ (k : Int) ∧ (k : Int) ≤ A 1
    · exact (hz k hk q3.1 (by omega)).symm
    · exact (wk_out q3).symm
  · rw [if_neg q] at hbe
    by_cases q2 : mBeg A R 20 = mBeg A R 21 ∧ mBeg A R 20 = mBeg A R 22
    · rw [if_pos q2] at hbe
      rw [hbe]
      refine ⟨fun _ => ⟨by rw [up_eq]; omega, fun k hk => ?_⟩, fun z => absurd (by rw [up_ne (by omega), up_ne (by omega)]; exact e4) z, by rw [up_ne (by omega), up_ne (by omega), e4]; decide⟩
      rw [MetA_up (by omega), up_eq]
      have ek : MetA (up (mBeg A R) (925 + (mBeg A R 20).toNat) (rwR R (mBeg A R 20))) k = if k = (mBeg A R 20).toNat then rwR R (mBeg A R 20) else 0 := by
        show (if 925 + k = 925 + (mBeg A R 20).toNat then rwR R (mBeg A R 20) else mBeg A R (925 + k)) = _
        by_cases z : k = (mBeg A R 20).toNat
        · rw [if_pos (by omega), if_pos z]
        · rw [if_neg (by omega), if_neg z]
          exact mBeg_M hk
      rw [ek]
      by_cases z : k = (mBeg A R 20).toNat
      · rw [if_pos z, if_pos (by omega), wk_in (by omega), z, Int.toNat_of_nonneg (by omega)]
      · rw [if_neg z]
        by_cases q4 : (k : Int) < mBeg A R 20 + 1
        · rw [if_pos q4]
          by_cases q5 : A 0 ≤ (k : Int)
          · exact (hz k hk q5 (by omega)).symm
          · exact (wk_out (by omega)).symm
        · rw [if_neg q4]
    · rw [if_neg q2] at hbe
      rw [hbe]
      refine ⟨fun _ => ⟨by rw [up_eq]; omega, fun k hk => ?_⟩, fun z => absurd (by rw [up_ne (by omega)]; exact e4) z, by rw [up_ne (by omega), e4]; decide⟩
      rw [MetA_up (by omega), up_eq, mBeg_M hk]
      by_cases q4 : (k : Int) < gr3 (mBeg A R 20) (mBeg A R 21) (mBeg A R 22)
      · rw [if_pos q4]
        by_cases q5 : A 0 ≤ (k : Int)
        · exact (hz k hk q5 q4).symm
        · exact (wk_out (by omega)).symm
      · rw [if_neg q4]
theorem beg_ok (hA : StgR A) (hR : RB R) : RunR (mLook (mBeg A R) R) ∧ RunS (mLook (mBeg A R) R) R ∧ Iv (mLook (mBeg A R) R) ∧ StgR (mLook (mBeg A R) R) := by
  have hb : RunR (mBeg A R) := RunR_beg hA
  have e1 : mBeg A R 1 = A 1 := mBeg_k (by omega)
  have e4 : mBeg A R 4 = 1 := rfl
  have ek : ∀ k, k < 4 → mLook (mBeg A R) R k = A k := fun k hk => (mLook_ne (by omega) (by omega) (by omega) (Or.inr (Or.inr (by rw [e1]; exact hA.2.1.2)))).trans (mBeg_k (by omega))
  refine ⟨RunR_look hb (by rw [e1]; exact hA.2.1) hR, RunS_look hb (by rw [e1]; exact hA.2.1) (by rw [e4]; decide) (fun _ => onS_beg hA), Iv_look hb (by rw [e4]; decide), ?_⟩
  unfold StgR
  rw [ek 0 (by omega), ek 1 (by omega), ek 2 (by omega), ek 3 (by omega)]
  exact hA
theorem beg_0 (hA : StgR A) {k : Nat} (hk : 8 ≤ k ∧ k < 20) : mLook (mBeg A R) R k = 0 := (mLook_ne (by omega) (by omega) (by omega) (Or.inr (Or.inr (by rw [mBeg_k (by omega)]; exact hA.2.1.2)))).trans (mBeg_0 hk)
/-- a run from its beginning to its end meets what plain walking meets -/
theorem beg_run (hA : StgR A) (hR : RB R) : ((mRun (mLook (mBeg A R) R) R).1 4 = 2 ∧ (mRun (mLook (mBeg A R) R) R).1 8 + (mRun (mLook (mBeg A R) R) R).1 9 + (mRun (mLook (mBeg A R) R) R).1 10 = (mRun (mLook (mBeg A R) R) R).2) ∧ ∀ k : Nat, k < 300 → MetA (mRun (mLook (mBeg A R) R) R).1 k = wk A R k := by
  obtain ⟨o1, o2, o3, o4⟩ := beg_ok (R := R) hA hR
  obtain ⟨c1, c2, c3⟩ := beg_cv (R := R) hA hR
  have h := run_all hR 1000 _ o4 o1 o2 o3 c3 (run_pot o1)
  have hk := (runF_inv hR 1000 _ o4 o1 o2 (run_pot o1)).2
  have a : ∀ k, k < 4 → mLook (mBeg A R) R k = A k := fun k hk => (mLook_ne (by omega) (by omega) (by omega) (Or.inr (Or.inr (by rw [mBeg_k (by omega)]; exact hA.2.1.2)))).trans (mBeg_k (by omega))
  refine ⟨⟨h.1.1, ?_⟩, fun k hk2 => ?_⟩
  · have h2 := h.1.2
    rw [beg_0 hA (by omega), beg_0 hA (by omega), beg_0 hA (by omega)] at h2
    show (mRunF 1000 (mLook (mBeg A R) R) R).1 8 + (mRunF 1000 (mLook (mBeg A R) R) R).1 9 + (mRunF 1000 (mLook (mBeg A R) R) R).1 10 = (mRunF 1000 (mLook (mBeg A R) R) R).2
    omega
  · have h3 := h.2 c1 c2 k hk2
    have ew : wk (mRunF 1000 (mLook (mBeg A R) R) R).1 R = wk A R := wk_row ((hk 0 (by omega)).trans (a 0 (by omega))) ((hk 1 (by omega)).trans (a 1 (by omega)))
    rw [ew] at h3
    exact h3
end LAW3
