/-! the law's flood: what a flood does to the run; its walk -/
section LAW5
variable {S S' : MM} {A A' : Nat → Int} {m : Nat} {H : Nat → Nat → Int} {K : Nat → Int} {V : Nat → Nat → Int} {P : Nat → Int} {n : Nat} {w0 a b : Int}
theorem XIs.ghost (h : XIs S A m H K V P n) (he : ∀ a, a < 593 → S' a = S a) (h2 : S' 602 = S 602) (h4 : S' 604 0 = S 604 0) : XIs S' A m H K V P n :=
  ⟨h.1.rows (fun a _ _ => he a (by omega)), ⟨by rw [h4]; exact h.2.1.1, fun j hj => by rw [h2]; exact h.2.1.2 j hj⟩, h.2.2.1.rows (fun a _ _ _ _ => he a (by omega)), h.2.2.2.1.rows (he 68 (by omega)) (fun a _ _ => he a (by omega)), ⟨by rw [he 16 (by omega)]; exact h.2.2.2.2.1.1, fun i hi => by rw [he (96 + 64 * i) (by omega)]; exact h.2.2.2.2.1.2 i hi⟩, h.2.2.2.2.2.row (by rw [he 69 (by omega)]) (he 70 (by omega))⟩
theorem cnt_part {r : Nat → Int} : ∀ k, cnt (mOut r a b) k + cnt (mIn r a b) k = cnt r k
  | 0 => rfl
  | k + 1 => by
    have h := cnt_part (r := r) k
    rw [cnt_s, cnt_s, cnt_s]
    unfold mOut mIn
    by_cases q : a ≤ (k : Int) ∧ (k : Int) ≤ b
    · rw [if_pos q, if_pos q, if_neg (show ¬ (0 : Int) < 0 by omega)]
      show cnt (mOut r a b) k + 0 + (cnt (mIn r a b) k + _) = _
      omega
    · rw [if_neg q, if_neg q, if_neg (show ¬ (0 : Int) < 0 by omega)]
      show cnt (mOut r a b) k + _ + (cnt (mIn r a b) k + 0) = _
      omega
theorem cnt_mIn {r : Nat → Int} (ha : 0 ≤ a) (hb : a ≤ b ∧ b ≤ 299) : cnt (mIn r a b) 300 + cnt r a.toNat = cnt r (b.toNat + 1) := by
  have key : ∀ k, cnt (mIn r a b) k = if k ≤ a.toNat then 0 else if k ≤ b.toNat + 1 then cnt r k - cnt r a.toNat else cnt r (b.toNat + 1) - cnt r a.toNat := by
    intro k
    induction k with
    | zero =>
      rw [if_pos (Nat.zero_le _)]
      rfl
    | succ k ih =>
      have m1 := cnt_mono r (show a.toNat ≤ b.toNat + 1 by omega)
      rw [cnt_s, ih]
      have hs := cnt_s r k
      have hx : mIn r a b k = if a ≤ (k : Int) ∧ (k : Int) ≤ b then r k else 0 := rfl
      by_cases q1 : k < a.toNat
      · rw [if_pos (show k ≤ a.toNat by omega), hx, if_neg (show ¬ (a ≤ (k : Int) ∧ (k : Int) ≤ b) by omega), if_neg (show ¬ (0 : Int) < 0 by omega), if_pos (show k + 1 ≤ a.toNat by omega)]
      · by_cases q2 : k ≤ b.toNat
        · have m2 := cnt_mono r (show a.toNat ≤ k by omega)
          rw [hx, if_pos (show a ≤ (k : Int) ∧ (k : Int) ≤ b by omega), if_neg (show ¬ k + 1 ≤ a.toNat by omega), if_pos (show k + 1 ≤ b.toNat + 1 by omega), hs]
          by_cases q3 : k ≤ a.toNat
          · rw [if_pos q3, show k = a.toNat by omega]
            omega
          · rw [if_neg q3, if_pos (show k ≤ b.toNat + 1 by omega)]
            omega
        · rw [hx, if_neg (show ¬ (a ≤ (k : Int) ∧ (k : Int) ≤ b) by omega), if_neg (show ¬ (0 : Int) < 0 by omega), if_neg (show ¬ k + 1 ≤ a.toNat by omega), if_neg (show ¬ k + 1 ≤ b.toNat + 1 by omega), if_neg (show ¬ k ≤ a.toNat by omega)]
          by_cases q3 : k ≤ b.toNat + 1
          · rw [if_pos q3, show k = b.toNat + 1 by omega]
            omega
          · rw [if_neg q3]
            omega
  have m1 := cnt_mono r (show a.toNat ≤ b.toNat + 1 by omega)
  rw [key 300, if_neg (by omega)]
  by_cases q : b.toNat + 1 = 300
  · rw [if_pos (by omega), q]
    rw [q] at m1
    omega
  · rw [if_neg (by omega)]
    omega
theorem cnt_nR (w : Nat) : cnt (nR A w0 a b w) 300 + cnt (nT A w0 a b w) 300 = cnt (RA A w) 300 := by
  unfold nR nT
  split
  · exact cnt_part 300
  · rw [cnt_zero (M := fun _ => 0) (fun _ _ => rfl)]
    omega
theorem take_lo {k : Nat} (ha : AOk A) (h : k < 4 ∨ (8 ≤ k ∧ k < 14) ∨ (17 ≤ k ∧ k < 20) ∨ k = 6) : mTake A w0 a b k = A k := by
  have e1 : mSlip (mFl A w0 a b) (RA (mFl A w0 a b)) 1 = A 1 := (mSlip_k (by omega)).trans (mFl_lo (by omega) (by omega))
  exact (mLook_ne (by omega) (by omega) (by omega) (Or.inr (Or.inr (by rw [e1]; exact ha.1.2.1.2)))).trans ((mSlip_k (by omega)).trans (mFl_lo (by omega) (by omega)))
theorem take_7 (ha : AOk A) : mTake A w0 a b 7 = if A 7 < 4 then A 7 + 1 else 4 := by
  have e1 : mSlip (mFl A w0 a b) (RA (mFl A w0 a b)) 1 = A 1 := (mSlip_k (by omega)).trans (mFl_lo (by omega) (by omega))
  have e : mTake A w0 a b 7 = mFl A w0 a b 7 := (mLook_ne (by omega) (by omega) (by omega) (Or.inr (Or.inr (by rw [e1]; exact ha.1.2.1.2)))).trans (mSlip_k (by omega))
  have h7 := ha.2.2.2.1
  rw [e, mFl_7 h7]
  unfold fl0
  split <;> omega
theorem take_R (ha : AOk A) {w k : Nat} (hw : w < 3) (hk : k < 300) : RA (mTake A w0 a b) w k = nR A w0 a b w k := by
  have e1 : mSlip (mFl A w0 a b) (RA (mFl A w0 a b)) 1 = A 1 := (mSlip_k (by omega)).trans (mFl_lo (by omega) (by omega))
  have e : RA (mTake A w0 a b) w k = RA (mFl A w0 a b) w k := (mLook_ne (by omega) (by omega) (by omega) (Or.inr (Or.inr (by rw [e1]; exact ha.1.2.1.2)))).trans (mSlip_k (by omega))
  rw [e, mFl_R hw hk]
theorem take_cnt (ha : AOk A) {w k : Nat} (hw : w < 3) (hk : k ≤ 300) : cnt (RA (mTake A w0 a b) w) k = cnt (nR A w0 a b w) k := cnt_congr (fun j hj => by rw [take_R ha hw (by omega)])
def lostP (A : Nat → Int) (w0 a b : Int) (w : Nat) : Prop := (w0 = -6 ∨ w0 = (w : Int)) ∧ a ≤ A (20 + w) ∧ A (20 + w) ≤ b
def slP (A : Nat → Int) (R : Nat → Nat → Int) (w : Nat) : Prop := A 4 ≠ 0 ∧ A (20 + w) ≠ 300 ∧ ¬ 0 < R w (A (20 + w)).toNat
theorem slip_on {R : Nat → Nat → Int} {w : Nat} (hw : w < 3) (h : slP A R w) : mSlip A R (20 + w) = (fst (R w) (A (20 + w)).toNat : Int) ∧ mSlip A R (14 + w) = A (14 + w) + (if A 4 = 1 then 1 else 0) := by
  have e : ∀ (B : Nat → Int), B 4 = A 4 → B (20 + w) = A (20 + w) → B (14 + w) = A (14 + w) → mSlipW B (R w) w (20 + w) = (fst (R w) (A (20 + w)).toNat : Int) ∧ mSlipW B (R w) w (14 + w) = A (14 + w) + (if A 4 = 1 then 1 else 0) := by
    intro B h4 h20 h14
    unfold mSlipW
    rw [if_pos (by rw [h4, h20]; exact h), h20, h4]
    rw [if_pos rfl, if_neg (by omega), if_pos rfl, h14]
    exact ⟨rfl, rfl⟩
  unfold mSlip
  rcases (show w = 0 ∨ w = 1 ∨ w = 2 by omega) with rfl | rfl | rfl
  · rw [mSlipW_k (by omega) (by omega), mSlipW_k (by omega) (by omega), mSlipW_k (w := 2) (by omega) (by omega), mSlipW_k (w := 1) (by omega) (by omega)]
    exact e A rfl rfl rfl
  · rw [mSlipW_k (w := 2) (by omega) (by omega), mSlipW_k (w := 2) (by omega) (by omega)]
    exact e _ (mSlipW_k (by omega) (by omega)) (mSlipW_k (by omega) (by omega)) (mSlipW_k (by omega) (by omega))
  · exact e _ ((mSlipW_k (by omega) (by omega)).trans (mSlipW_k (by omega) (by omega))) ((mSlipW_k (by omega) (by omega)).trans (mSlipW_k (by omega) (by omega))) ((mSlipW_k (by omega) (by omega)).trans (mSlipW_k (by omega) (by omega)))
theorem slip_off {R : Nat → Nat → Int} {w : Nat} (hw : w < 3) (h : ¬ slP A R w) : mSlip A R (20 + w) = A (20 + w) ∧ mSlip A R (14 + w) = A (14 + w) := by
  have e : ∀ (B : Nat → Int), B 4 = A 4 → B (20 + w) = A (20 + w) → B (14 + w) = A (14 + w) → mSlipW B (R w) w (20 + w) = A (20 + w) ∧ mSlipW B (R w) w (14 + w) = A (14 + w) := by
    intro B h4 h20 h14
    unfold mSlipW
    rw [if_neg (by rw [h4, h20]; exact h)]
    exact ⟨h20, h14⟩
  unfold mSlip
  rcases (show w = 0 ∨ w = 1 ∨ w = 2 by omega) with rfl | rfl | rfl
  · rw [mSlipW_k (by omega) (by omega), mSlipW_k (by omega) (by omega), mSlipW_k (w := 2) (by omega) (by omega), mSlipW_k (w := 1) (by omega) (by omega)]
    exact e A rfl rfl rfl
  · rw [mSlipW_k (w := 2) (by omega) (by omega), mSlipW_k (w := 2) (by omega) (by omega)]
    exact e _ (mSlipW_k (by omega) (by omega)) (mSlipW_k (by omega) (by omega)) (mSlipW_k (by omega) (by omega))
  · exact e _ ((mSlipW_k (by omega) (by omega)).trans (mSlipW_k (by omega) (by omega))) ((mSlipW_k (by omega) (by omega)).trans (mSlipW_k (by omega) (by omega))) ((mSlipW_k (by omega) (by omega)).trans (mSlipW_k (by omega) (by omega)))
theorem take_w (ha : AOk A) (h4 : A 4 ≠ 0) (hab : 0 ≤ a ∧ a ≤ b ∧ b ≤ 299) {w : Nat} (hw : w < 3) :
    (lostP A w0 a b w → mTake A w0 a b (20 + w) = (fst (nR A w0 a b w) (A (20 + w)).toNat : Int) ∧ mTake A w0 a b (14 + w) = A (14 + w) + (if A 4 = 1 then 1 else 0)) ∧ (¬ lostP A w0 a b w → mTake A w0 a b (20 + w) = A (20 + w) ∧ mTake A w0 a b (14 + w) = A (14 + w)) := by
  have e1 : mSlip (mFl A w0 a b) (RA (mFl A w0 a b)) 1 = A 1 := (mSlip_k (by omega)).trans (mFl_lo (by omega) (by omega))
  have l20 : mTake A w0 a b (20 + w) = mSlip (mFl A w0 a b) (RA (mFl A w0 a b)) (20 + w) := mLook_20 (by rw [e1]; exact ha.1.2.1.2) hw
  have l14 : mTake A w0 a b (14 + w) = mSlip (mFl A w0 a b) (RA (mFl A w0 a b)) (14 + w) := mLook_ne (by omega) (by omega) (by omega) (Or.inr (Or.inr (by rw [e1]; exact ha.1.2.1.2)))
  have f4 : mFl A w0 a b 4 = A 4 := mFl_lo (by omega) (by omega)
  have f20 : mFl A w0 a b (20 + w) = A (20 + w) := mFl_lo (by omega) (by omega)
  have f14 : mFl A w0 a b (14 + w) = A (14 + w) := mFl_lo (by omega) (by omega)
  have b20 := (ha.2.2.2.2.1.w hw).1
  have hon : A (20 + w) ≠ 300 → 0 < RA A w (A (20 + w)).toNat := fun q => (ha.2.2.2.2.2.on ha.2.2.2.2.1 h4) w hw (by omega)
  have hsl : slP (mFl A w0 a b) (RA (mFl A w0 a b)) w ↔ lostP A w0 a b w := by
    unfold slP lostP
    rw [f4, f20]
    by_cases q : A (20 + w) = 300
    · constructor
      · rintro ⟨-, z, -⟩
        exact absurd q z
      · rintro ⟨-, -, z⟩
        omega
    · have hp := hon q
      have hR : RA (mFl A w0 a b) w (A (20 + w)).toNat = nR A w0 a b w (A (20 + w)).toNat := mFl_R hw (by omega)
      rw [hR]
      unfold nR
      by_cases c : w0 = -6 ∨ w0 = (w : Int)
      · rw [if_pos c]
        unfold mOut
        rw [Int.toNat_of_nonneg b20.1]
        by_cases d : a ≤ A (20 + w) ∧ A (20 + w) ≤ b
        · rw [if_pos d]
          exact ⟨fun _ => ⟨c, d⟩, fun _ => ⟨h4, q, by omega⟩⟩
        · rw [if_neg d]
          exact ⟨fun z => absurd hp z.2.2, fun z => absurd z.2 d⟩
      · rw [if_neg c]
        exact ⟨fun z => absurd hp z.2.2, fun z => absurd z.1 c⟩
  rw [l20, l14]
  refine ⟨fun hl => ?_, fun hl => ?_⟩
  · obtain ⟨q1, q2⟩ := slip_on hw (hsl.mpr hl)
    rw [q1, q2, f4, f20, f14]
    refine ⟨?_, rfl⟩
    rw [fst_congr (r := RA (mFl A w0 a b) w) (r' := nR A w0 a b w) (by omega) (fun j _ hj => by rw [mFl_R hw hj])]
  · obtain ⟨q1, q2⟩ := slip_off hw (fun z => hl (hsl.mp z))
    rw [q1, q2, f20, f14]
    exact ⟨rfl, rfl⟩
theorem take_4 : mTake A w0 a b 4 = if A 4 = 1 ∧ A 1 < gr3 (mSlip (mFl A w0 a b) (RA (mFl A w0 a b)) 20) (mSlip (mFl A w0 a b) (RA (mFl A w0 a b)) 21) (mSlip (mFl A w0 a b) (RA (mFl A w0 a b)) 22) then 2 else A 4 := by
  have e1 : mSlip (mFl A w0 a b) (RA (mFl A w0 a b)) 1 = A 1 := (mSlip_k (by omega)).trans (mFl_lo (by omega) (by omega))
  have e4 : mSlip (mFl A w0 a b) (RA (mFl A w0 a b)) 4 = A 4 := (mSlip_k (by omega)).trans (mFl_lo (by omega) (by omega))
  have h := mLook_4 (A := mSlip (mFl A w0 a b) (RA (mFl A w0 a b))) (R := RA (mFl A w0 a b))
  rw [e1, e4] at h
  exact h
theorem take_4n (h : A 4 ≠ 1) : mTake A w0 a b 4 = A 4 := by
  rw [take_4, if_neg (fun q => h q.1)]
theorem take_41 (h : A 4 = 1) : mTake A w0 a b 4 ≠ 0 := by
  rw [take_4]
  split <;> omega
end LAW5
